/** The boundaries that the document names for calls, when they are taken and until they are lost. */
public final class BoundaryCallsTest {
    private static final int OPEN = Rescuemarket.OPEN;
    private static final int TASKED = Rescuemarket.TASKED;
    private static final int DONE = Rescuemarket.DONE;
    private static final int LOST = Rescuemarket.LOST;
    private static final int NONE = Rescuemarket.NONE;

    public static void main(String[] args) {
        Due.sentence("Calls are numbered from 0, at most 30", BoundaryCallsTest::atMostThirty);
        Due.sentence("Throws IllegalStateException if there are 30", BoundaryCallsTest::thirtyOne);
        Due.sentence("cell: 0 to 47", BoundaryCallsTest::cells);
        Due.sentence("need: 1 to 50", BoundaryCallsTest::needs);
        Due.sentence("last: the last hour, behind that of now, to 999", BoundaryCallsTest::lasts);
        Due.sentence("last: the last hour, behind that of now, to 999", BoundaryCallsTest::lastsOfTheLastHours);
        Due.sentence("has to be reached until a last hour", BoundaryCallsTest::reachedUntil);
        Due.sentence("It is OPEN, TASKED, DONE, or LOST.", BoundaryCallsTest::states);
        Due.sentence("one that is OPEN, and whose last hour is less than the hour of now, is LOST",
                BoundaryCallsTest::lostBehindItsLastHour);
        Due.sentence("one that is OPEN, and whose last hour is less than the hour of now, is LOST",
                BoundaryCallsTest::openAgainInItsLastHour);
        Due.sentence("one that is OPEN ... is LOST", BoundaryCallsTest::onlyOpenOnesAreLost);
        Due.sentence("Otherwise a boat is looked for, for those that are OPEN", BoundaryCallsTest::lostStaysLost);
        Due.end();
    }

    private static void atMostThirty() {
        Rescuemarket market = new Rescuemarket();
        for (int number = 0; number < 30; number++) {
            Due.is("its number", number, market.call(number, 1, 999));
            Due.callIs("taken", market, number, OPEN, NONE, 0, 0);
        }
    }

    private static void thirtyOne() {
        Rescuemarket market = Sea.withCalls(30);
        Due.fails("one more", Due.BAD_STATE, () -> market.call(0, 1, 1));
        Due.fails("it is not there", Due.NO_SUCH, () -> market.ofCall(30, 0));
        Sea.pass(market, 999);
        Due.callIs("its last hour", market, 29, OPEN);
        Rescuemarket lost = new Rescuemarket();
        for (int number = 0; number < 30; number++) {
            lost.call(0, 1, 1);
        }
        lost.pass(2);
        Due.callIs("all are", lost, 0, LOST);
        Due.fails("LOST ones count too", Due.BAD_STATE, () -> lost.call(0, 1, 9));
    }

    private static void cells() {
        Rescuemarket market = new Rescuemarket();
        Due.fails("-1", Due.NO_SUCH, () -> market.call(-1, 1, 1));
        Due.is("0", 0, market.call(0, 1, 1));
        Due.is("47", 1, market.call(47, 1, 1));
        Due.fails("48", Due.NO_SUCH, () -> market.call(48, 1, 1));
    }

    private static void needs() {
        Rescuemarket market = Sea.withBoats(2);
        Due.fails("0", Due.BAD_ARGUMENT, () -> market.call(0, 0, 9));
        Due.is("1", 0, market.call(0, 1, 9));
        Due.is("50", 1, market.call(0, 50, 9));
        Due.fails("51", Due.BAD_ARGUMENT, () -> market.call(0, 51, 9));
        market.cap(1000);
        market.pass(2);
        Due.callIs("the least need", market, 0, DONE, 0, 1, 5);
        Due.callIs("the greatest need", market, 1, DONE, 1, 1, 250);
    }

    private static void lasts() {
        for (int now : new int[] {0, 1, 47, 48, 500, 997}) {
            Rescuemarket market = Sea.atHour(now);
            Due.fails("the hour before that of now", Due.BAD_ARGUMENT, () -> market.call(0, 1, now - 1));
            Due.fails("the hour of now", Due.BAD_ARGUMENT, () -> market.call(0, 1, now));
            Due.is("the hour behind", 0, market.call(0, 1, now + 1));
            Due.is("the last of all", 1, market.call(0, 1, 999));
            Due.fails("behind the last", Due.BAD_ARGUMENT, () -> market.call(0, 1, 1000));
        }
    }

    private static void lastsOfTheLastHours() {
        Rescuemarket market = Sea.atHour(998);
        Due.is("one hour is left", 0, market.call(0, 1, 999));
        Due.fails("not two", Due.BAD_ARGUMENT, () -> market.call(0, 1, 1000));
        market.pass(1);
        Due.fails("none is left, 999", Due.BAD_ARGUMENT, () -> market.call(0, 1, 999));
        Due.fails("none is left, 1000", Due.BAD_ARGUMENT, () -> market.call(0, 1, 1000));
        Due.fails("none is left, 998", Due.BAD_ARGUMENT, () -> market.call(0, 1, 998));
    }

    private static void reachedUntil() {
        for (int last = 1; last <= 5; last++) {
            Rescuemarket market = Sea.withBoat(1, 100, 9);
            market.call(3, 1, last);
            market.pass(10);
            Due.callIs("there in 4, until " + last, market, 0, last < 4 ? LOST : DONE);
        }
    }

    private static void states() {
        Rescuemarket market = Sea.withBoat(1, 100, 9);
        market.call(1, 1, 9);
        market.call(47, 1, 3);
        int[] first = {OPEN, TASKED, DONE, DONE, DONE};
        int[] second = {OPEN, OPEN, OPEN, OPEN, LOST};
        for (int hour = 0; hour < first.length; hour++) {
            Due.callIs("hour " + hour, market, 0, first[hour]);
            Due.callIs("hour " + hour, market, 1, second[hour]);
            market.pass(1);
        }
    }

    private static void lostBehindItsLastHour() {
        for (int last : new int[] {1, 2, 47, 48, 49}) {
            Rescuemarket market = new Rescuemarket();
            market.call(0, 1, last);
            Sea.pass(market, last);
            Due.callIs("in hour " + last, market, 0, OPEN, NONE, 0, 0);
            market.pass(1);
            Due.callIs("behind hour " + last, market, 0, LOST, NONE, 0, 0);
        }
        Rescuemarket late = Sea.atHour(950);
        late.call(0, 1, 998);
        late.call(0, 1, 999);
        late.pass(48);
        Due.callIs("in hour 998", late, 0, OPEN);
        late.pass(1);
        Due.callIs("in hour 999", late, 0, LOST);
        Due.callIs("in hour 999", late, 1, OPEN);
    }

    /** Its boat turns back in the very hour in which it would be there, the call's last one. */
    private static void openAgainInItsLastHour() {
        Rescuemarket market = Sea.withBoat(1, 100, 0);
        market.call(3, 1, 4);
        market.pass(3);
        market.foretell(3, 3, 4, 4, 1);
        market.pass(1);
        Due.callIs("in its last hour", market, 0, OPEN, 0, 1, 0);
        market.pass(1);
        Due.callIs("behind it", market, 0, LOST, 0, 1, 0);
    }

    private static void onlyOpenOnesAreLost() {
        Rescuemarket market = Sea.withBoat(1, 100, 0);
        market.call(3, 1, 4);
        market.pass(3);
        Due.callIs("on the way", market, 0, TASKED, 0, 1, 0);
        market.pass(1);
        Due.callIs("in its last hour", market, 0, DONE, 0, 1, 35);
        market.pass(1);
        Due.callIs("behind it", market, 0, DONE, 0, 1, 35);
        market.pass(48);
        Due.callIs("long behind it", market, 0, DONE, 0, 1, 35);
    }

    private static void lostStaysLost() {
        Rescuemarket market = new Rescuemarket();
        market.call(0, 1, 1);
        market.pass(2);
        Due.callIs("behind its last hour", market, 0, LOST, NONE, 0, 0);
        market.boat(0, 0, 3, 100, 9);
        market.pass(9);
        Due.callIs("a boat is there", market, 0, LOST, NONE, 0, 0);
        Due.boatIs("it is not tasked", market, 0, Rescuemarket.FREE, NONE, NONE, 100);
    }
}
