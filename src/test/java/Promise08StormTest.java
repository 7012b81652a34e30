/** Promise 8: storm. */
public final class Promise08StormTest {
    public static void main(String[] args) {
        answers();
        wrong();
        Due.end();
    }

    private static void answers() {
        Rescuemarket market = new Rescuemarket();
        for (int storm = 0; storm <= 9; storm++) {
            market.foretell(40, 40, 10 + storm, 10 + storm, storm);
        }
        for (int storm = 0; storm <= 9; storm++) {
            Due.is("foretold", storm, market.storm(40, 10 + storm));
        }
        market.pass(19);
        Due.is("now", 9, market.storm(40, 19));
        Due.is("the last hour", 0, market.storm(40, 999));
        market.foretell(40, 40, 999, 999, 8);
        Due.is("the last hour, anew", 8, market.storm(40, 999));
        Due.is("the hour before", 0, market.storm(40, 998));
    }

    private static void wrong() {
        Rescuemarket market = new Rescuemarket();
        market.foretell(0, 47, 0, 999, 5);
        market.pass(2);
        Due.changesNothing("no such cell", market, Due.NO_SUCH,
                () -> market.storm(-1, 5),
                () -> market.storm(48, 5),
                () -> market.storm(48, 1),
                () -> market.storm(Integer.MAX_VALUE, Integer.MIN_VALUE));
        Due.changesNothing("out of range", market, Due.BAD_ARGUMENT,
                () -> market.storm(0, 1),
                () -> market.storm(0, 1000),
                () -> market.storm(0, -1),
                () -> market.storm(47, Integer.MIN_VALUE),
                () -> market.storm(47, Integer.MAX_VALUE));
    }
}
