/** The boundaries of hours that go by. */
public final class BoundaryPassTest {
    public static void main(String[] args) {
        Due.sentence("hours: 1 to 48", BoundaryPassTest::hours);
        Due.sentence("Returns the hour.", BoundaryPassTest::returnsTheHour);
        Due.sentence("Throws IllegalStateException if it would be above 999", BoundaryPassTest::above999);
        Due.sentence("Throws IllegalStateException if it would be above 999", BoundaryPassTest::noneGoesBy);
        Due.sentence("An hour, when it goes by: it is one more; then, in this order", BoundaryPassTest::hourByHour);
        Due.end();
    }

    private static void hours() {
        Rescuemarket market = new Rescuemarket();
        Due.fails("0", Due.BAD_ARGUMENT, () -> market.pass(0));
        Due.is("1", 1, market.pass(1));
        Due.is("48", 49, market.pass(48));
        Due.fails("49", Due.BAD_ARGUMENT, () -> market.pass(49));
        Due.fails("-1", Due.BAD_ARGUMENT, () -> market.pass(-1));
        Due.is("the hour behind those refused", 50, market.pass(1));
    }

    private static void returnsTheHour() {
        Rescuemarket market = new Rescuemarket();
        int due = 0;
        for (int hours = 1; due + hours <= 999 && hours <= 48; hours++) {
            due += hours;
            Due.is("the hour", due, market.pass(hours));
            Due.is("of now", 0, market.storm(0, due));
        }
    }

    private static void above999() {
        for (int hours = 1; hours <= 48; hours++) {
            int most = hours;
            Rescuemarket market = Sea.atHour(999 - hours);
            if (hours < 48) {
                Due.fails("one above, from " + (999 - hours), Due.BAD_STATE, () -> market.pass(most + 1));
            }
            Due.is("just 999, from " + (999 - hours), 999, market.pass(hours));
            Due.fails("one above, from 999", Due.BAD_STATE, () -> market.pass(1));
            Due.fails("many above, from 999", Due.BAD_STATE, () -> market.pass(48));
        }
    }

    private static void noneGoesBy() {
        Rescuemarket market = Sea.atHour(990);
        market.boat(0, 0, 1, 10, 0);
        market.call(1, 1, 991);
        Due.fails("ten hours of nine", Due.BAD_STATE, () -> market.pass(10));
        Due.fine("it is 990 still", () -> market.storm(0, 990));
        Due.callIs("not looked at", market, 0, Rescuemarket.OPEN, Rescuemarket.NONE, 0, 0);
        Due.is("nine hours of nine", 999, market.pass(9));
        Due.callIs("looked at", market, 0, Rescuemarket.LOST, Rescuemarket.NONE, 0, 0);
    }

    /** What hours bring must not depend on how many of them go by at once. */
    private static void hourByHour() {
        for (int first = 1; first <= 48; first++) {
            Rescuemarket one = busy();
            Rescuemarket other = busy();
            for (int hour = 0; hour < 48; hour++) {
                one.pass(1);
            }
            other.pass(first);
            Sea.pass(other, 48 - first);
            Due.is("first " + first + " of 48 hours", Sight.of(one), Sight.of(other));
        }
    }

    private static Rescuemarket busy() {
        Rescuemarket market = new Rescuemarket();
        market.boat(0, 0, 1, 30, 3);
        market.boat(1, 20, 2, 25, 5);
        market.boat(2, 47, 3, 20, 2);
        market.lend(1, 2);
        for (int call = 0; call < 15; call++) {
            market.call(call * 3, 1 + call * 2, 5 + call * 3);
        }
        for (int storm = 0; storm < 8; storm++) {
            market.foretell(storm, 40 + storm, storm * 5, storm * 6, storm);
        }
        return market;
    }
}
