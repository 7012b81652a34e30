/** Promise 5: call. */
public final class Promise05CallTest {
    public static void main(String[] args) {
        thirtyCalls();
        oneTooMany();
        edges();
        wrong();
        order();
        Due.end();
    }

    private static void thirtyCalls() {
        Rescuemarket market = thirty();
        for (int number = 0; number < 30; number++) {
            Due.is("it is OPEN", Rescuemarket.OPEN, market.ofCall(number, 0));
            Due.is("no boat", Rescuemarket.NONE, market.ofCall(number, 1));
            Due.is("no task", 0, market.ofCall(number, 2));
            Due.is("no reward", 0, market.ofCall(number, 3));
        }
        market.pass(48);
        Due.is("all are lost", Rescuemarket.LOST, market.ofCall(29, 0));
        Due.fails("also when all are lost", Due.BAD_STATE, () -> market.call(0, 1, 100));
    }

    private static void oneTooMany() {
        Rescuemarket market = thirty();
        Due.changesNothing("a call too many", market, Due.BAD_STATE, () -> market.call(0, 1, 1));
        Due.fails("there is no such call", Due.NO_SUCH, () -> market.ofCall(30, 0));
    }

    private static Rescuemarket thirty() {
        Rescuemarket market = new Rescuemarket();
        for (int number = 0; number < 30; number++) {
            Due.is("call", number, market.call(number, 1 + number, 1 + number));
        }
        return market;
    }

    private static void edges() {
        Rescuemarket market = new Rescuemarket();
        Due.is("all least", 0, market.call(0, 1, 1));
        Due.is("all most", 1, market.call(47, 50, 999));
        market.pass(5);
        Due.is("the hour behind now", 2, market.call(0, 1, 6));
        Due.fails("the hour of now", Due.BAD_ARGUMENT, () -> market.call(0, 1, 5));
        for (int hour = 5; hour + 48 <= 999; hour += 48) {
            market.pass(48);
        }
        int now = 5 + 48 * 20;
        Due.is("the hour", 999, market.pass(999 - now));
        Due.fails("no hour is behind the last", Due.BAD_ARGUMENT, () -> market.call(0, 1, 999));
        Due.fails("nor a thousandth", Due.BAD_ARGUMENT, () -> market.call(0, 1, 1000));
    }

    private static void wrong() {
        Rescuemarket market = new Rescuemarket();
        market.call(1, 1, 1);
        Due.changesNothing("no such cell", market, Due.NO_SUCH,
                () -> market.call(-1, 1, 1),
                () -> market.call(48, 1, 1),
                () -> market.call(Integer.MIN_VALUE, 1, 1));
        Due.changesNothing("out of range", market, Due.BAD_ARGUMENT,
                () -> market.call(0, 0, 1),
                () -> market.call(0, 51, 1),
                () -> market.call(0, -1, 1),
                () -> market.call(0, 1, 0),
                () -> market.call(0, 1, -1),
                () -> market.call(0, 1, 1000),
                () -> market.call(0, Integer.MAX_VALUE, Integer.MIN_VALUE));
        Due.is("the next one's number", 1, market.call(1, 1, 1));
    }

    private static void order() {
        Rescuemarket market = thirty();
        Due.changesNothing("the index is first", market, Due.NO_SUCH,
                () -> market.call(48, 1, 1),
                () -> market.call(48, 0, 0));
        Rescuemarket other = thirty();
        Due.changesNothing("the range is second", other, Due.BAD_ARGUMENT,
                () -> other.call(0, 0, 1),
                () -> other.call(0, 1, 0));
    }
}
