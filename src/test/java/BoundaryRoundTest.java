/** The boundaries of the second and the third step of an hour: boats that are there, home, and rested. */
public final class BoundaryRoundTest {
    private static final int FREE = Rescuemarket.FREE;
    private static final int OUT = Rescuemarket.OUT;
    private static final int RESTS = Rescuemarket.RESTS;
    private static final int TASKED = Rescuemarket.TASKED;
    private static final int DONE = Rescuemarket.DONE;
    private static final int NONE = Rescuemarket.NONE;

    public static void main(String[] args) {
        Due.sentence("one that is there in this hour does its call, which is DONE", BoundaryRoundTest::there);
        Due.sentence("goes home, where it is as many hours later as it took to get there", BoundaryRoundTest::home);
        Due.sentence("RESTS as many hours as it was out, all together", BoundaryRoundTest::rests);
        Due.sentence("and is full", BoundaryRoundTest::full);
        Due.sentence("One that has rested so many hours is FREE.", BoundaryRoundTest::free);
        Due.sentence("in this order: ... 3. ... 4.", BoundaryRoundTest::freeAndTaskedInOneHour);
        Due.sentence("By rising boats: ... 2.", BoundaryRoundTest::allThatAreThere);
        Due.sentence("Hours are 0 to 999.", BoundaryRoundTest::homeBehindTheLastHour);
        Due.end();
    }

    /** For speed 1: the way in cells is the way in hours, but an hour at least. */
    private static int hours(int way) {
        return Math.max(1, way);
    }

    private static void there() {
        for (int way = 0; way <= 5; way++) {
            Rescuemarket market = Sea.outFor(way, 1, 20, 0);
            int there = 1 + hours(way);
            Sea.pass(market, hours(way) - 1);
            Due.callIs("an hour before, way " + way, market, 0, TASKED, 0, 1, 0);
            Due.boatIs("an hour before, way " + way, market, 0, OUT, 0, there, 20);
            market.pass(1);
            Due.callIs("there, way " + way, market, 0, DONE, 0, 1, 10 * way + 5);
        }
    }

    private static void home() {
        for (int way = 0; way <= 5; way++) {
            Rescuemarket market = Sea.outFor(way, 1, 20, 0);
            Sea.pass(market, hours(way));
            int home = 1 + 2 * hours(way);
            Due.boatIs("there, way " + way, market, 0, OUT, NONE, home, 20 - 2 * way);
            Sea.pass(market, hours(way) - 1);
            Due.boatIs("an hour before, way " + way, market, 0, OUT, NONE, home, 20 - 2 * way);
            market.pass(1);
            Due.boatIs("home, way " + way, market, 0, RESTS);
        }
    }

    private static void rests() {
        for (int way = 0; way <= 5; way++) {
            Rescuemarket market = Sea.outFor(way, 1, 20, 0);
            Sea.pass(market, 2 * hours(way));
            Due.boatIs("home, way " + way, market, 0, RESTS, NONE, 1 + 4 * hours(way));
            Sea.pass(market, 2 * hours(way) - 1);
            Due.boatIs("an hour before, way " + way, market, 0, RESTS, NONE, 1 + 4 * hours(way));
            market.pass(1);
            Due.boatIs("rested, way " + way, market, 0, FREE);
        }
    }

    private static void full() {
        for (int fuel = 10; fuel <= 100; fuel += 45) {
            Rescuemarket market = Sea.outFor(5, 1, fuel, 0);
            market.pass(9);
            Due.boatIs("an hour from home", market, 0, OUT, NONE, 11, fuel - 10);
            market.pass(1);
            Due.boatIs("home", market, 0, RESTS, NONE, 21, fuel);
        }
        for (int fuel = 24; fuel <= 100; fuel += 38) {
            Rescuemarket market = Sea.outFor(47, 3, fuel, 0);
            market.pass(7);
            Due.boatIs("an hour from home, from the farthest", market, 0, OUT, NONE, 9, fuel - 24);
            market.pass(1);
            Due.boatIs("home, from the farthest", market, 0, RESTS, NONE, 17, fuel);
        }
    }

    private static void free() {
        Rescuemarket market = Sea.outFor(0, 3, 1, 0);
        market.pass(3);
        Due.boatIs("an hour before", market, 0, RESTS, NONE, 5, 1);
        market.pass(1);
        Due.boatIs("rested two hours, the shortest", market, 0, FREE, NONE, NONE, 1);
        Rescuemarket other = Sea.outFor(5, 1, 10, 0);
        other.pass(19);
        Due.boatIs("an hour before", other, 0, RESTS, NONE, 21, 10);
        other.pass(1);
        Due.boatIs("rested ten hours, the longest", other, 0, FREE, NONE, NONE, 10);
    }

    private static void freeAndTaskedInOneHour() {
        Rescuemarket market = Sea.outFor(1, 1, 10, 0);
        market.call(2, 1, 99);
        market.pass(3);
        Due.callIs("hour 4: it RESTS", market, 1, Rescuemarket.OPEN, NONE, 0, 0);
        market.pass(1);
        Due.callIs("hour 5", market, 1, TASKED, 0, 1, 0);
        Due.boatIs("hour 5", market, 0, OUT, 1, 7, 10);
    }

    private static void allThatAreThere() {
        Rescuemarket market = Sea.withBoats(6);
        for (int call = 0; call < 6; call++) {
            market.call(1, 1, 99);
        }
        market.pass(2);
        for (int number = 0; number < 6; number++) {
            Due.callIs("all in one hour", market, number, DONE, number, 1, 15);
            Due.boatIs("all in one hour", market, number, OUT, NONE, 3, 98);
        }
        market.pass(1);
        Due.boatIs("the last one too", market, 5, RESTS, NONE, 5, 100);
        market.pass(2);
        Due.boatIs("the last one too", market, 5, FREE, NONE, NONE, 100);
    }

    private static void homeBehindTheLastHour() {
        Rescuemarket market = Sea.atHour(993);
        market.boat(0, 0, 1, 20, 0);
        market.call(5, 1, 999);
        market.pass(6);
        Due.callIs("the last hour", market, 0, DONE, 0, 1, 55);
        Due.boatIs("home when there are no hours", market, 0, OUT, NONE, 1004, 10);
    }
}
