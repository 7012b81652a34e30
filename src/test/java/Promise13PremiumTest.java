/** Promise 13: premium. */
public final class Promise13PremiumTest {
    public static void main(String[] args) {
        storms();
        calls();
        bothAndTheEnd();
        wrong();
        Due.end();
    }

    private static void storms() {
        Rescuemarket market = new Rescuemarket();
        market.foretell(5, 5, 24, 24, 9);
        Due.is("24 hours ahead", 0.0f, market.premium(5));
        market.foretell(5, 5, 23, 23, 3);
        Due.is("23 hours ahead", 4.5f, market.premium(5));
        market.foretell(5, 5, 10, 11, 4);
        Due.is("the greatest", 6.0f, market.premium(5));
        Due.is("the cell beside", 0.0f, market.premium(6));
        market.pass(1);
        Due.is("the next hour", 13.5f, market.premium(5));
        market.pass(23);
        Due.is("that of now", 13.5f, market.premium(5));
        market.pass(1);
        Due.is("gone by", 0.0f, market.premium(5));
        market.foretell(5, 5, 25, 25, 1);
        Due.is("foretold for now", 1.5f, market.premium(5));
        market.foretell(5, 5, 25, 25, 0);
        Due.is("in place of before", 0.0f, market.premium(5));
    }

    private static void calls() {
        Rescuemarket market = new Rescuemarket();
        market.boat(0, 7, 1, 10, 0);
        market.call(7, 1, 1);
        market.call(7, 50, 5);
        market.call(8, 1, 1);
        Due.is("two OPEN", 0.5f, market.premium(7));
        Due.is("one OPEN", 0.25f, market.premium(8));
        Due.is("none", 0.0f, market.premium(9));
        market.pass(10);
        Due.is("one DONE, one LOST", 0.5f, market.premium(7));
        for (int i = 0; i < 27; i++) {
            market.call(7, 1, 11);
        }
        Due.is("29 of them", 7.25f, market.premium(7));
    }

    private static void bothAndTheEnd() {
        Rescuemarket market = new Rescuemarket();
        market.foretell(0, 47, 999, 999, 7);
        market.call(46, 1, 999);
        for (int hour = 48; hour <= 960; hour += 48) {
            market.pass(48);
        }
        market.pass(15);
        Due.is("hour 975", 0.25f, market.premium(46));
        market.pass(1);
        Due.is("hour 976", 10.75f, market.premium(46));
        market.pass(23);
        Due.is("hour 999", 10.75f, market.premium(46));
        Due.is("the last cell", 10.5f, market.premium(47));
    }

    private static void wrong() {
        Rescuemarket market = new Rescuemarket();
        market.call(3, 1, 9);
        Due.changesNothing("no such cell", market, Due.NO_SUCH,
                () -> market.premium(-1),
                () -> market.premium(48),
                () -> market.premium(Integer.MIN_VALUE),
                () -> market.premium(Integer.MAX_VALUE));
    }
}
