/** The boundaries of what is asked of boats and of calls. */
public final class BoundaryQuestionsTest {
    private static final int FREE = Rescuemarket.FREE;
    private static final int OUT = Rescuemarket.OUT;
    private static final int RESTS = Rescuemarket.RESTS;
    private static final int OPEN = Rescuemarket.OPEN;
    private static final int TASKED = Rescuemarket.TASKED;
    private static final int DONE = Rescuemarket.DONE;
    private static final int LOST = Rescuemarket.LOST;
    private static final int NONE = Rescuemarket.NONE;

    public static void main(String[] args) {
        Due.sentence("Throws IllegalArgumentException if what is out of range", BoundaryQuestionsTest::whatOfBoats);
        Due.sentence("Throws IndexOutOfBoundsException if there is no such boat", BoundaryQuestionsTest::boats);
        Due.sentence("0 FREE to RESTS", BoundaryQuestionsTest::statesOfABoat);
        Due.sentence("1 the call for which it is OUT, NONE if it is not, or is on its way home",
                BoundaryQuestionsTest::callOfABoat);
        Due.sentence("2 the hour in which it is there, home, or FREE next, NONE if it is FREE",
                BoundaryQuestionsTest::nextHourOfABoat);
        Due.sentence("3 its fuel: it is less by the way there and back once its call is DONE",
                BoundaryQuestionsTest::fuelOnceDone);
        Due.sentence("or as told once it turned back", BoundaryQuestionsTest::fuelOnceTurnedBack);
        Due.sentence("Throws IllegalArgumentException if what is out of range", BoundaryQuestionsTest::whatOfCalls);
        Due.sentence("Throws IndexOutOfBoundsException if there is no such call", BoundaryQuestionsTest::calls);
        Due.sentence("0 OPEN to LOST", BoundaryQuestionsTest::statesOfACall);
        Due.sentence("1 the boat that was tasked last, NONE without", BoundaryQuestionsTest::boatOfACall);
        Due.sentence("2 how often it was tasked", BoundaryQuestionsTest::tasksOfACall);
        Due.sentence("3 its reward, 0 if it is not DONE", BoundaryQuestionsTest::rewardOfACall);
        Due.end();
    }

    private static void whatOfBoats() {
        Rescuemarket market = Sea.withBoat(1, 10, 0);
        Due.fails("-1", Due.BAD_ARGUMENT, () -> market.ofBoat(0, -1));
        Due.is("0", FREE, market.ofBoat(0, 0));
        Due.is("3", 10, market.ofBoat(0, 3));
        Due.fails("4", Due.BAD_ARGUMENT, () -> market.ofBoat(0, 4));
    }

    private static void boats() {
        Rescuemarket market = new Rescuemarket();
        Due.fails("none are there", Due.NO_SUCH, () -> market.ofBoat(0, 0));
        market.boat(0, 0, 1, 10, 0);
        market.boat(0, 0, 1, 20, 0);
        Due.fails("-1", Due.NO_SUCH, () -> market.ofBoat(-1, 3));
        Due.is("0", 10, market.ofBoat(0, 3));
        Due.is("1", 20, market.ofBoat(1, 3));
        Due.fails("2", Due.NO_SUCH, () -> market.ofBoat(2, 3));
    }

    private static void statesOfABoat() {
        Rescuemarket market = Sea.withBoat(1, 10, 0);
        Due.is("at home", 0, market.ofBoat(0, 0));
        market.call(1, 1, 99);
        market.pass(1);
        Due.is("on its way there", 1, market.ofBoat(0, 0));
        market.pass(1);
        Due.is("on its way home", 1, market.ofBoat(0, 0));
        market.pass(1);
        Due.is("home", 2, market.ofBoat(0, 0));
        market.pass(2);
        Due.is("rested", 0, market.ofBoat(0, 0));
    }

    private static void callOfABoat() {
        Rescuemarket market = Sea.withBoat(1, 10, 0);
        market.call(47, 1, 99);
        market.call(2, 1, 99);
        int[] due = {NONE, 1, 1, NONE, NONE, NONE, NONE, NONE, NONE, NONE};
        for (int hour = 0; hour < due.length; hour++) {
            Due.is("hour " + hour, due[hour], market.ofBoat(0, 1));
            market.pass(1);
        }
        Rescuemarket back = Sea.outFor(2, 1, 10, 0);
        Due.is("on its way there", 0, back.ofBoat(0, 1));
        back.foretell(2, 2, 3, 3, 1);
        back.pass(1);
        Due.is("turned back", NONE, back.ofBoat(0, 1));
    }

    private static void nextHourOfABoat() {
        Rescuemarket market = Sea.withBoat(1, 10, 0);
        market.call(2, 1, 99);
        int[] due = {NONE, 3, 3, 5, 5, 9, 9, 9, 9, NONE, NONE};
        for (int hour = 0; hour < due.length; hour++) {
            Due.is("hour " + hour, due[hour], market.ofBoat(0, 2));
            market.pass(1);
        }
    }

    private static void fuelOnceDone() {
        Rescuemarket market = Sea.withBoat(1, 10, 0);
        market.call(2, 1, 99);
        int[] due = {10, 10, 10, 6, 6, 10, 10, 10, 10, 10, 10};
        for (int hour = 0; hour < due.length; hour++) {
            Due.is("hour " + hour, due[hour], market.ofBoat(0, 3));
            market.pass(1);
        }
        Rescuemarket fast = Sea.outFor(1, 3, 10, 0);
        fast.pass(1);
        Due.is("by the way, not by the speed", 8, fast.ofBoat(0, 3));
        Rescuemarket empty = Sea.outFor(5, 1, 10, 0);
        empty.pass(5);
        Due.is("all of it", 0, empty.ofBoat(0, 3));
        Rescuemarket near = Sea.outFor(0, 1, 10, 0);
        near.pass(1);
        Due.is("no way, no fuel", 10, near.ofBoat(0, 3));
    }

    private static void fuelOnceTurnedBack() {
        Rescuemarket market = Sea.outFor(1, 3, 10, 0);
        market.foretell(1, 1, 2, 2, 1);
        market.pass(1);
        Due.is("by the speed, not by the way", 4, market.ofBoat(0, 3));
        market.pass(1);
        Due.is("home", 10, market.ofBoat(0, 3));
    }

    private static void whatOfCalls() {
        Rescuemarket market = Sea.withCalls(1);
        Due.fails("-1", Due.BAD_ARGUMENT, () -> market.ofCall(0, -1));
        Due.is("0", OPEN, market.ofCall(0, 0));
        Due.is("3", 0, market.ofCall(0, 3));
        Due.fails("4", Due.BAD_ARGUMENT, () -> market.ofCall(0, 4));
    }

    private static void calls() {
        Rescuemarket market = new Rescuemarket();
        Due.fails("none are there", Due.NO_SUCH, () -> market.ofCall(0, 0));
        market.boat(0, 0, 1, 10, 0);
        market.call(0, 1, 9);
        market.call(0, 1, 9);
        market.pass(1);
        Due.fails("-1", Due.NO_SUCH, () -> market.ofCall(-1, 0));
        Due.is("0", TASKED, market.ofCall(0, 0));
        Due.is("1", OPEN, market.ofCall(1, 0));
        Due.fails("2", Due.NO_SUCH, () -> market.ofCall(2, 0));
    }

    private static void statesOfACall() {
        Rescuemarket market = Sea.withBoat(1, 10, 0);
        market.call(1, 1, 99);
        market.call(47, 1, 1);
        Due.is("taken", 0, market.ofCall(0, 0));
        market.pass(1);
        Due.is("tasked", 1, market.ofCall(0, 0));
        market.pass(1);
        Due.is("done", 2, market.ofCall(0, 0));
        Due.is("lost", 3, market.ofCall(1, 0));
    }

    private static void boatOfACall() {
        Rescuemarket market = new Rescuemarket();
        market.boat(0, 0, 2, 20, 0);
        market.boat(0, 0, 1, 20, 1);
        market.call(2, 1, 5);
        market.call(47, 1, 2);
        Due.is("not looked at", NONE, market.ofCall(0, 1));
        market.pass(1);
        Due.is("tasked", 0, market.ofCall(0, 1));
        market.foretell(2, 2, 2, 4, 1);
        market.pass(1);
        Due.is("tasked anew", 1, market.ofCall(0, 1));
        market.foretell(2, 2, 4, 4, 2);
        market.pass(1);
        Due.callIs("turned back", market, 0, OPEN, 1);
        market.foretell(2, 2, 4, 99, 9);
        market.pass(3);
        Due.callIs("the last that was tasked", market, 0, LOST, 1);
        Due.callIs("none ever was", market, 1, LOST, NONE);
    }

    private static void tasksOfACall() {
        Rescuemarket market = Sea.withBoat(1, 20, 0);
        market.call(1, 1, 99);
        Due.is("not looked at", 0, market.ofCall(0, 2));
        for (int task = 1; task <= 3; task++) {
            market.pass(1);
            Due.callIs("task " + task, market, 0, TASKED, 0, task);
            int there = market.ofBoat(0, 2);
            market.foretell(1, 1, there, there, 1);
            market.pass(1);
            Due.callIs("turned back, task " + task, market, 0, OPEN, 0, task);
            market.pass(2);
        }
        market.pass(2);
        Due.callIs("the fourth task", market, 0, DONE, 0, 4);
        market.pass(9);
        Due.callIs("and no more", market, 0, DONE, 0, 4);
    }

    private static void rewardOfACall() {
        Rescuemarket market = Sea.withBoat(1, 20, 0);
        market.call(1, 1, 99);
        market.call(47, 1, 1);
        Due.callIs("OPEN", market, 0, OPEN, NONE, 0, 0);
        market.pass(1);
        Due.callIs("TASKED", market, 0, TASKED, 0, 1, 0);
        market.pass(1);
        Due.callIs("DONE", market, 0, DONE, 0, 1, 15);
        Due.callIs("LOST", market, 1, LOST, NONE, 0, 0);
    }
}
