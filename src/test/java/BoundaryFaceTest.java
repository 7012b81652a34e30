/** The boundaries that the public face and the terms name for all methods. */
public final class BoundaryFaceTest {
    private static final int MIN = Integer.MIN_VALUE;
    private static final int MAX = Integer.MAX_VALUE;

    public static void main(String[] args) {
        Due.sentence("An object is used for at most 512 calls after it has been made", BoundaryFaceTest::just512Calls);
        Due.sentence("A method that throws an exception changes nothing.", BoundaryFaceTest::refusedBringing);
        Due.sentence("A method that throws an exception changes nothing.", BoundaryFaceTest::refusedSetting);
        Due.sentence("A method that throws an exception changes nothing.", BoundaryFaceTest::refusedHours);
        Due.sentence("A method that throws an exception changes nothing.", BoundaryFaceTest::refusedQuestions);
        Due.sentence("If several exceptions apply, the one that is documented first is thrown.",
                BoundaryFaceTest::indexAheadOfAll);
        Due.sentence("If several exceptions apply, the one that is documented first is thrown.",
                BoundaryFaceTest::argumentAheadOfState);
        Due.sentence("IndexOutOfBoundsException is thrown where there is no such cell, club, boat, or call",
                BoundaryFaceTest::noSuchCell);
        Due.sentence("IndexOutOfBoundsException is thrown where there is no such cell, club, boat, or call",
                BoundaryFaceTest::noSuchClub);
        Due.sentence("IndexOutOfBoundsException is thrown where there is no such cell, club, boat, or call",
                BoundaryFaceTest::noSuchBoat);
        Due.sentence("IndexOutOfBoundsException is thrown where there is no such cell, club, boat, or call",
                BoundaryFaceTest::noSuchCall);
        Due.sentence("IllegalArgumentException if another argument is out of range", BoundaryFaceTest::outOfRange);
        Due.sentence("Hours are 0 to 999.", BoundaryFaceTest::hours);
        Due.sentence("NONE = -1: There is none.", BoundaryFaceTest::none);
        Due.end();
    }

    /** Five rounds of four hours do all calls, as many in each as there are boats. */
    private static void just512Calls() {
        Rescuemarket market = Sea.withBoats(6);
        for (int call = 0; call < 30; call++) {
            Due.is("call", call, market.call(1, 1, 999));
        }
        for (int hour = 1; hour <= 474; hour++) {
            Due.is("hour", hour, market.pass(1));
        }
        Due.is("the 511th answer", Rescuemarket.DONE, market.ofCall(29, 0));
        Due.is("the 512th answer", 150, market.rewardsAnew(0));
    }

    /** A market with something of everything, for acts that may not change it. */
    private static Rescuemarket full() {
        Rescuemarket market = Sea.withBoats(4);
        market.call(45, 7, 3);
        market.call(2, 7, 60);
        market.call(3, 9, 60);
        market.lend(1, 2);
        market.cap(77);
        market.pass(5);
        market.foretell(0, 47, 5, 999, 2);
        market.call(4, 1, 7);
        return market;
    }

    private static void refusedBringing() {
        Rescuemarket market = full();
        Due.changesNothing("boat, no such", market, Due.NO_SUCH,
                () -> market.boat(3, 0, 1, 1, 0), () -> market.boat(0, 48, 1, 1, 0));
        Rescuemarket second = full();
        Due.changesNothing("boat, call, out of range", second, Due.BAD_ARGUMENT,
                () -> second.boat(0, 0, 4, 1, 0), () -> second.boat(0, 0, 1, 101, 0), () -> second.boat(0, 0, 1, 1, 10),
                () -> second.call(0, 51, 9), () -> second.call(0, 1, 5), () -> second.call(0, 1, 1000));
        Rescuemarket third = full();
        Due.changesNothing("call, no such", third, Due.NO_SUCH, () -> third.call(48, 1, 9), () -> third.call(-1, 1, 9));
        Due.is("the number that a refused boat did not take", 4, third.boat(0, 0, 1, 1, 0));
        Due.is("the number that a refused call did not take", 4, third.call(0, 1, 9));
    }

    private static void refusedSetting() {
        Rescuemarket market = full();
        Due.changesNothing("lend", market, Due.NO_SUCH,
                () -> market.lend(4, 1), () -> market.lend(0, 3), () -> market.lend(0, -1));
        Rescuemarket second = full();
        Due.changesNothing("foretell, no such", second, Due.NO_SUCH,
                () -> second.foretell(0, 48, 5, 999, 9), () -> second.foretell(-1, 47, 5, 999, 9));
        Rescuemarket third = full();
        Due.changesNothing("foretell, cap, out of range", third, Due.BAD_ARGUMENT,
                () -> third.foretell(1, 40, 5, 999, 9), () -> third.foretell(40, 7, 5, 999, 9),
                () -> third.foretell(0, 47, 4, 999, 9), () -> third.foretell(0, 47, 5, 1000, 9),
                () -> third.foretell(0, 47, 5, 999, 10), () -> third.foretell(0, 47, 5, 999, -1),
                () -> third.cap(-1), () -> third.cap(1001));
    }

    private static void refusedHours() {
        Rescuemarket market = full();
        Due.changesNothing("pass, out of range", market, Due.BAD_ARGUMENT, () -> market.pass(0), () -> market.pass(49));
        Due.is("the hour behind those refused", 6, market.pass(1));
        Rescuemarket late = Sea.atHour(960);
        late.boat(0, 0, 1, 10, 0);
        late.call(1, 1, 999);
        Due.changesNothing("not even the hours that there are", late, Due.BAD_STATE,
                () -> late.pass(40), () -> late.pass(48));
        Due.callIs("hour 960", late, 0, Rescuemarket.OPEN, Rescuemarket.NONE, 0, 0);
        Due.is("the hour behind those refused", 961, late.pass(1));
    }

    private static void refusedQuestions() {
        Rescuemarket market = full();
        Due.changesNothing("no such", market, Due.NO_SUCH,
                () -> market.storm(48, 5), () -> market.ofBoat(4, 0), () -> market.ofCall(4, 0),
                () -> market.rewards(3), () -> market.rewardsAnew(3), () -> market.premium(48));
        Rescuemarket second = full();
        Due.changesNothing("out of range", second, Due.BAD_ARGUMENT,
                () -> second.storm(0, 4), () -> second.storm(0, 1000), () -> second.ofBoat(0, 4),
                () -> second.ofBoat(0, -1), () -> second.ofCall(0, 4), () -> second.ofCall(0, -1));
    }

    private static void indexAheadOfAll() {
        Rescuemarket market = Sea.withBoats(6);
        for (int call = 0; call < 30; call++) {
            market.call(0, 1, 999);
        }
        Due.fails("boat's club", Due.NO_SUCH, () -> market.boat(3, 0, 0, 0, 10));
        Due.fails("boat's home", Due.NO_SUCH, () -> market.boat(0, 48, 4, 101, -1));
        Due.fails("boat's home, six are there", Due.NO_SUCH, () -> market.boat(0, 48, 1, 1, 0));
        Due.fails("foretell's from, to ahead", Due.NO_SUCH, () -> market.foretell(48, 0, 0, 0, 0));
        Due.fails("foretell's to, hours and storm", Due.NO_SUCH, () -> market.foretell(0, 48, -1, 1000, 10));
        Due.fails("foretell's to, ahead of from", Due.NO_SUCH, () -> market.foretell(0, -1, 0, 0, 0));
        Due.fails("call's cell", Due.NO_SUCH, () -> market.call(48, 0, 0));
        Due.fails("call's cell, thirty are there", Due.NO_SUCH, () -> market.call(-1, 1, 1));
        Due.fails("storm's cell", Due.NO_SUCH, () -> market.storm(48, 1000));
        Due.fails("ofBoat's boat", Due.NO_SUCH, () -> market.ofBoat(6, 4));
        Due.fails("ofCall's call", Due.NO_SUCH, () -> market.ofCall(30, -1));
    }

    private static void argumentAheadOfState() {
        Rescuemarket market = Sea.withBoats(6);
        for (int call = 0; call < 30; call++) {
            market.call(0, 1, 999);
        }
        Due.fails("a seventh boat's speed", Due.BAD_ARGUMENT, () -> market.boat(0, 0, 4, 1, 0));
        Due.fails("a seventh boat's fuel", Due.BAD_ARGUMENT, () -> market.boat(0, 0, 1, 0, 0));
        Due.fails("a seventh boat's bears", Due.BAD_ARGUMENT, () -> market.boat(0, 0, 1, 1, 10));
        Due.fails("a call's need, thirty are there", Due.BAD_ARGUMENT, () -> market.call(0, 51, 1));
        Due.fails("a call's last, thirty are there", Due.BAD_ARGUMENT, () -> market.call(0, 1, 0));
        Rescuemarket late = Sea.atHour(999);
        Due.fails("49 hours behind the last", Due.BAD_ARGUMENT, () -> late.pass(49));
        Due.fails("many hours behind the last", Due.BAD_ARGUMENT, () -> late.pass(MAX));
    }

    private static void noSuchCell() {
        Rescuemarket market = new Rescuemarket();
        for (int cell : new int[] {MIN, -48, -1, 48, 49, MAX}) {
            Due.fails("boat, home " + cell, Due.NO_SUCH, () -> market.boat(0, cell, 1, 1, 0));
            Due.fails("foretell from " + cell, Due.NO_SUCH, () -> market.foretell(cell, 47, 0, 0, 0));
            Due.fails("foretell to " + cell, Due.NO_SUCH, () -> market.foretell(0, cell, 0, 0, 0));
            Due.fails("call, cell " + cell, Due.NO_SUCH, () -> market.call(cell, 1, 1));
            Due.fails("storm, cell " + cell, Due.NO_SUCH, () -> market.storm(cell, 0));
            Due.fails("premium, cell " + cell, Due.NO_SUCH, () -> market.premium(cell));
        }
        for (int cell : new int[] {0, 47}) {
            Due.fine("boat, home " + cell, () -> market.boat(0, cell, 1, 1, 0));
            Due.fine("foretell, cell " + cell, () -> market.foretell(cell, cell, 0, 0, 0));
            Due.fine("call, cell " + cell, () -> market.call(cell, 1, 1));
            Due.fine("storm, cell " + cell, () -> market.storm(cell, 0));
            Due.fine("premium, cell " + cell, () -> market.premium(cell));
        }
    }

    private static void noSuchClub() {
        Rescuemarket market = Sea.withBoats(1);
        for (int club : new int[] {MIN, -1, 3, 4, MAX}) {
            Due.fails("boat, club " + club, Due.NO_SUCH, () -> market.boat(club, 0, 1, 1, 0));
            Due.fails("lend, club " + club, Due.NO_SUCH, () -> market.lend(0, club));
            Due.fails("rewards, club " + club, Due.NO_SUCH, () -> market.rewards(club));
            Due.fails("rewardsAnew, club " + club, Due.NO_SUCH, () -> market.rewardsAnew(club));
        }
        for (int club : new int[] {0, 2}) {
            Due.fine("boat, club " + club, () -> market.boat(club, 0, 1, 1, 0));
            Due.fine("lend, club " + club, () -> market.lend(0, club));
            Due.fine("rewards, club " + club, () -> market.rewards(club));
            Due.fine("rewardsAnew, club " + club, () -> market.rewardsAnew(club));
        }
    }

    private static void noSuchBoat() {
        for (int boats = 0; boats <= 6; boats++) {
            Rescuemarket market = Sea.withBoats(boats);
            for (int boat : new int[] {MIN, -1, boats, 6, MAX}) {
                Due.fails("lend, boat " + boat + " of " + boats, Due.NO_SUCH, () -> market.lend(boat, 0));
                Due.fails("ofBoat, boat " + boat + " of " + boats, Due.NO_SUCH, () -> market.ofBoat(boat, 0));
            }
            if (boats > 0) {
                int last = boats - 1;
                Due.fine("lend, the last of " + boats, () -> market.lend(last, 0));
                Due.fine("ofBoat, the last of " + boats, () -> market.ofBoat(last, 0));
            }
        }
    }

    private static void noSuchCall() {
        for (int calls = 0; calls <= 30; calls++) {
            Rescuemarket market = Sea.withCalls(calls);
            for (int call : new int[] {MIN, -1, calls, 30, MAX}) {
                Due.fails("ofCall, call " + call + " of " + calls, Due.NO_SUCH, () -> market.ofCall(call, 0));
            }
            if (calls > 0) {
                int last = calls - 1;
                Due.fine("ofCall, the last of " + calls, () -> market.ofCall(last, 0));
            }
        }
    }

    private static void outOfRange() {
        Rescuemarket market = Sea.withBoats(1);
        market.call(0, 1, 1);
        for (int wild : new int[] {MIN, MIN + 1, -1, 1001, MAX - 1, MAX}) {
            Due.fails("speed " + wild, Due.BAD_ARGUMENT, () -> market.boat(0, 0, wild, 1, 0));
            Due.fails("fuel " + wild, Due.BAD_ARGUMENT, () -> market.boat(0, 0, 1, wild, 0));
            Due.fails("bears " + wild, Due.BAD_ARGUMENT, () -> market.boat(0, 0, 1, 1, wild));
            Due.fails("first " + wild, Due.BAD_ARGUMENT, () -> market.foretell(0, 0, wild, 999, 0));
            Due.fails("last " + wild, Due.BAD_ARGUMENT, () -> market.foretell(0, 0, 0, wild, 0));
            Due.fails("storm " + wild, Due.BAD_ARGUMENT, () -> market.foretell(0, 0, 0, 0, wild));
            Due.fails("need " + wild, Due.BAD_ARGUMENT, () -> market.call(0, wild, 1));
            Due.fails("a call's last " + wild, Due.BAD_ARGUMENT, () -> market.call(0, 1, wild));
            Due.fails("cap " + wild, Due.BAD_ARGUMENT, () -> market.cap(wild));
            Due.fails("hours " + wild, Due.BAD_ARGUMENT, () -> market.pass(wild));
            Due.fails("hour " + wild, Due.BAD_ARGUMENT, () -> market.storm(0, wild));
            Due.fails("what of a boat " + wild, Due.BAD_ARGUMENT, () -> market.ofBoat(0, wild));
            Due.fails("what of a call " + wild, Due.BAD_ARGUMENT, () -> market.ofCall(0, wild));
        }
    }

    private static void hours() {
        Rescuemarket market = new Rescuemarket();
        Due.fine("the hour 0", () -> market.storm(0, 0));
        Due.fine("the hour 999", () -> market.storm(0, 999));
        Due.fails("an hour before", Due.BAD_ARGUMENT, () -> market.storm(0, -1));
        Due.fails("an hour behind", Due.BAD_ARGUMENT, () -> market.storm(0, 1000));
        Due.is("foretold for all hours", 1, market.foretell(0, 0, 0, 999, 1));
        Due.fails("foretold from before", Due.BAD_ARGUMENT, () -> market.foretell(0, 0, -1, 999, 1));
        Due.fails("foretold to behind", Due.BAD_ARGUMENT, () -> market.foretell(0, 0, 0, 1000, 1));
        Due.is("a call until 999", 0, market.call(0, 1, 999));
        Due.fails("a call until 1000", Due.BAD_ARGUMENT, () -> market.call(0, 1, 1000));
        Sea.pass(market, 998);
        Due.is("the last hour to come", 999, market.pass(1));
        Due.fails("none is behind it", Due.BAD_STATE, () -> market.pass(1));
    }

    private static void none() {
        Rescuemarket market = Sea.withBoat(1, 10, 0);
        market.call(10, 1, 1);
        Due.is("NONE", -1, Rescuemarket.NONE);
        Due.is("no call", -1, market.ofBoat(0, 1));
        Due.is("no next hour", -1, market.ofBoat(0, 2));
        Due.is("no boat", -1, market.ofCall(0, 1));
    }
}
