/** The boundaries of the fourth step of an hour: which boat is tasked for an OPEN call. */
public final class BoundaryTaskTest {
    private static final int FREE = Rescuemarket.FREE;
    private static final int OUT = Rescuemarket.OUT;
    private static final int RESTS = Rescuemarket.RESTS;
    private static final int OPEN = Rescuemarket.OPEN;
    private static final int TASKED = Rescuemarket.TASKED;
    private static final int NONE = Rescuemarket.NONE;

    public static void main(String[] args) {
        Due.sentence("An hour, when it goes by: it is one more; then", BoundaryTaskTest::firstLookedForInTheNextHour);
        Due.sentence("By rising calls", BoundaryTaskTest::lowestCallFirst);
        Due.sentence("of the FREE ones, at home", BoundaryTaskTest::notOnItsWay);
        Due.sentence("of the FREE ones, at home", BoundaryTaskTest::notWhenItRests);
        Due.sentence("those that can be there in time", BoundaryTaskTest::inTime);
        Due.sentence("its way there divided by its speed, rounded up", BoundaryTaskTest::roundedUp);
        Due.sentence("but at least 1", BoundaryTaskTest::atLeastOneHour);
        Due.sentence("whose fuel is at least the way there and back", BoundaryTaskTest::fuelThereAndBack);
        Due.sentence("whose fuel is at least the way there and back", BoundaryTaskTest::leastFuel);
        Due.sentence("the storm foretold for that cell and that hour is at most what they bear",
                BoundaryTaskTest::stormAtMostWhatTheyBear);
        Due.sentence("the storm foretold for that cell and that hour", BoundaryTaskTest::stormOfThatCellAndHour);
        Due.sentence("of these the one that is there first", BoundaryTaskTest::firstThere);
        Due.sentence("of several the one with the lowest number", BoundaryTaskTest::lowestNumber);
        Due.sentence("It is OUT, and the call TASKED.", BoundaryTaskTest::outAndTasked);
        Due.sentence("A boat may be out 10 hours at most, there and back.", BoundaryTaskTest::tenHours);
        Due.sentence("A boat may be out 10 hours at most, there and back.", BoundaryTaskTest::allWaysAndSpeeds);
        Due.end();
    }

    private static void firstLookedForInTheNextHour() {
        Rescuemarket market = Sea.withBoat(1, 10, 0);
        market.call(1, 1, 99);
        Due.callIs("hour 0", market, 0, OPEN, NONE, 0, 0);
        market.pass(1);
        Due.callIs("hour 1", market, 0, TASKED, 0, 1, 0);
        Due.boatIs("an hour behind hour 1", market, 0, OUT, 0, 2, 10);
    }

    private static void lowestCallFirst() {
        Rescuemarket market = Sea.withBoat(1, 10, 0);
        market.call(5, 1, 99);
        market.call(1, 50, 5);
        market.call(0, 50, 5);
        market.pass(1);
        Due.callIs("the lowest, though the farthest", market, 0, TASKED, 0, 1, 0);
        Due.callIs("no boat is left", market, 1, OPEN, NONE, 0, 0);
        Due.callIs("no boat is left", market, 2, OPEN, NONE, 0, 0);
    }

    private static void notOnItsWay() {
        Rescuemarket market = Sea.outFor(2, 1, 100, 9);
        market.call(0, 1, 99);
        market.pass(1);
        Due.callIs("hour 2: on its way there", market, 1, OPEN, NONE, 0, 0);
        market.pass(1);
        Due.callIs("hour 3: there", market, 1, OPEN, NONE, 0, 0);
        market.pass(1);
        Due.callIs("hour 4: on its way home", market, 1, OPEN, NONE, 0, 0);
    }

    private static void notWhenItRests() {
        Rescuemarket market = Sea.outFor(2, 1, 100, 9);
        market.call(0, 1, 99);
        market.pass(4);
        Due.boatIs("hour 5: home", market, 0, RESTS, NONE, 9, 100);
        Due.callIs("hour 5: home", market, 1, OPEN, NONE, 0, 0);
        market.pass(3);
        Due.callIs("hour 8: the last hour of rest", market, 1, OPEN, NONE, 0, 0);
        market.pass(1);
        Due.callIs("hour 9", market, 1, TASKED, 0, 1, 0);
    }

    private static void inTime() {
        for (int way = 0; way <= 5; way++) {
            int there = 1 + Math.max(1, way);
            Due.is("an hour too few, way " + way, OPEN, tasked(way, 1, 20, there - 1));
            Due.is("just in time, way " + way, TASKED, tasked(way, 1, 20, there));
        }
        Rescuemarket market = Sea.atHour(993);
        market.boat(0, 0, 1, 20, 0);
        market.call(5, 1, 999);
        market.pass(1);
        Due.callIs("there in the last hour of all", market, 0, TASKED, 0, 1, 0);
        Rescuemarket late = Sea.atHour(994);
        late.boat(0, 0, 1, 20, 0);
        late.call(5, 1, 999);
        late.pass(1);
        Due.callIs("there behind the last hour of all", late, 0, OPEN, NONE, 0, 0);
    }

    /** The state of a call in that cell behind the first hour, with one boat at home in cell 0. */
    private static int tasked(int cell, int speed, int fuel, int last) {
        Rescuemarket market = Sea.withBoat(speed, fuel, 0);
        market.call(cell, 1, last);
        market.pass(1);
        return market.ofCall(0, 0);
    }

    private static void roundedUp() {
        int[][] due = {{1, 1, 1}, {2, 1, 2}, {5, 1, 5}, {1, 2, 1}, {2, 2, 1}, {3, 2, 2}, {4, 2, 2}, {5, 2, 3},
            {7, 2, 4}, {1, 3, 1}, {2, 3, 1}, {3, 3, 1}, {4, 3, 2}, {5, 3, 2}, {6, 3, 2}, {7, 3, 3}};
        for (int[] row : due) {
            Rescuemarket market = Sea.outFor(row[0], row[1], 100, 0);
            String when = row[0] + " cells by " + row[1];
            Due.boatIs(when, market, 0, OUT, 0, 1 + row[2], 100);
        }
    }

    private static void atLeastOneHour() {
        for (int speed = 1; speed <= 3; speed++) {
            Due.boatIs("in its home's cell", Sea.outFor(0, speed, 100, 0), 0, OUT, 0, 2, 100);
            Due.is("no hour is left for it", OPEN, tasked(0, speed, 100, 1));
            Due.is("an hour is left for it", TASKED, tasked(0, speed, 100, 2));
        }
    }

    private static void fuelThereAndBack() {
        for (int way = 1; way <= 7; way++) {
            Due.is("one too little, way " + way, OPEN, tasked(way, 3, 2 * way - 1, 99));
            Due.is("just enough, way " + way, TASKED, tasked(way, 3, 2 * way, 99));
        }
        Due.is("one too little, way 12", OPEN, tasked(47, 3, 23, 99));
        Due.is("just enough, way 12", TASKED, tasked(47, 3, 24, 99));
    }

    private static void leastFuel() {
        Due.is("no way", TASKED, tasked(0, 1, 1, 99));
        Due.is("one cell there, none back", OPEN, tasked(1, 1, 1, 99));
        Due.is("one cell there and back", TASKED, tasked(1, 1, 2, 99));
    }

    private static void stormAtMostWhatTheyBear() {
        for (int bears = 0; bears <= 9; bears++) {
            for (int storm = 0; storm <= 9; storm++) {
                Rescuemarket market = Sea.withBoat(1, 20, bears);
                market.foretell(2, 2, 3, 3, storm);
                market.call(2, 1, 99);
                market.pass(1);
                int due = storm <= bears ? TASKED : OPEN;
                Due.is("bears " + bears + ", foretold " + storm, due, market.ofCall(0, 0));
            }
        }
    }

    /** The boat would be there in hour 3. */
    private static void stormOfThatCellAndHour() {
        Rescuemarket market = Sea.withBoat(1, 20, 0);
        market.foretell(0, 47, 0, 999, 9);
        market.foretell(2, 2, 3, 3, 0);
        market.call(2, 1, 99);
        market.pass(1);
        Due.callIs("storms in all other cells and hours", market, 0, TASKED, 0, 1, 0);
        Rescuemarket other = Sea.withBoat(1, 20, 0);
        other.foretell(2, 2, 3, 3, 1);
        other.call(2, 1, 99);
        other.pass(1);
        Due.callIs("in that cell and hour alone", other, 0, OPEN, NONE, 0, 0);
        Rescuemarket last = Sea.atHour(997);
        last.boat(0, 0, 1, 20, 0);
        last.foretell(0, 0, 999, 999, 1);
        last.call(0, 1, 999);
        last.pass(1);
        Due.callIs("in the last hour of all", last, 0, OPEN, NONE, 0, 0);
    }

    private static void firstThere() {
        Rescuemarket market = new Rescuemarket();
        market.boat(0, 0, 1, 100, 0);
        market.boat(0, 1, 1, 100, 0);
        market.boat(0, 0, 2, 100, 0);
        market.call(3, 1, 99);
        market.call(4, 1, 99);
        market.pass(1);
        Due.callIs("2 hours, ahead of 3", market, 0, TASKED, 1, 1, 0);
        Due.callIs("2 hours, ahead of 4", market, 1, TASKED, 2, 1, 0);
    }

    /** All of them are there in two hours, though their ways and speeds are not the same. */
    private static void lowestNumber() {
        Rescuemarket market = new Rescuemarket();
        market.boat(0, 0, 3, 100, 0);
        market.boat(0, 2, 1, 100, 0);
        market.boat(0, 0, 2, 100, 0);
        for (int call = 0; call < 3; call++) {
            market.call(4, 1, 99);
        }
        market.pass(1);
        for (int number = 0; number < 3; number++) {
            Due.callIs("there in hour 3", market, number, TASKED, number, 1, 0);
            Due.boatIs("there in hour 3", market, number, OUT, number, 3);
        }
    }

    private static void outAndTasked() {
        Rescuemarket market = Sea.withBoats(6);
        for (int call = 0; call < 7; call++) {
            market.call(3, 1, 99);
        }
        market.pass(1);
        for (int number = 0; number < 6; number++) {
            Due.boatIs("hour 1", market, number, OUT, number, 4, 100);
            Due.callIs("hour 1", market, number, TASKED, number, 1, 0);
        }
        Due.callIs("no boat is left for the seventh", market, 6, OPEN, NONE, 0, 0);
        Rescuemarket more = Sea.withBoats(6);
        more.call(3, 1, 99);
        more.pass(1);
        Due.boatIs("no call is left for the second", more, 1, FREE, NONE, NONE, 100);
    }

    private static void tenHours() {
        Due.is("5 cells by 1: 5 hours there", TASKED, tasked(5, 1, 100, 99));
        Due.is("6 cells by 1: 6 hours there", OPEN, tasked(6, 1, 100, 99));
        Due.is("10 cells by 2: 5 hours there", TASKED, tasked(31, 2, 100, 99));
        Due.is("11 cells by 2: 6 hours there", OPEN, tasked(39, 2, 100, 99));
        Due.is("12 cells by 3: 4 hours there", TASKED, tasked(47, 3, 100, 99));
        Rescuemarket market = Sea.outFor(5, 1, 100, 0);
        market.pass(9);
        Due.boatIs("OUT nine hours", market, 0, OUT, NONE, 11, 90);
        market.pass(1);
        Due.boatIs("home behind ten", market, 0, RESTS, NONE, 21, 100);
    }

    private static void allWaysAndSpeeds() {
        for (int speed = 1; speed <= 3; speed++) {
            for (int cell = 0; cell < 48; cell++) {
                int way = cell % 8 + cell / 8;
                int due = way <= 5 * speed ? TASKED : OPEN;
                Due.is(way + " cells by " + speed, due, tasked(cell, speed, 100, 99));
            }
        }
    }
}
