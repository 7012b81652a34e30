/** The boundaries of the first step of an hour: boats that turn back. */
public final class BoundaryTurnBackTest {
    private static final int FREE = Rescuemarket.FREE;
    private static final int OUT = Rescuemarket.OUT;
    private static final int RESTS = Rescuemarket.RESTS;
    private static final int OPEN = Rescuemarket.OPEN;
    private static final int TASKED = Rescuemarket.TASKED;
    private static final int DONE = Rescuemarket.DONE;
    private static final int NONE = Rescuemarket.NONE;

    public static void main(String[] args) {
        Due.sentence("a boat that is OUT for a call", BoundaryTurnBackTest::doneOnesGoHome);
        Due.sentence("a boat that is OUT for a call", BoundaryTurnBackTest::turnedBackOnesGoHome);
        Due.sentence("also if it would be there in this hour", BoundaryTurnBackTest::inTheHourOfArrival);
        Due.sentence("looks at what is foretold by now", BoundaryTurnBackTest::foretoldByNow);
        Due.sentence("for the cell of its call", BoundaryTurnBackTest::cellOfItsCall);
        Due.sentence("and the hour in which it is to be there", BoundaryTurnBackTest::hourOfArrival);
        Due.sentence("if that is more than it bears, it turns back", BoundaryTurnBackTest::moreThanItBears);
        Due.sentence("its call is OPEN", BoundaryTurnBackTest::callIsOpen);
        Due.sentence("then, in this order: 1. ... 4.", BoundaryTurnBackTest::anotherIsTaskedInTheSameHour);
        Due.sentence("It will be home as many hours later as it was out", BoundaryTurnBackTest::homeAsManyHoursLater);
        Due.sentence("as much fuel as its speed for each of these, twice", BoundaryTurnBackTest::fuelBySpeed);
        Due.sentence("at most what it has", BoundaryTurnBackTest::fuelAtMostWhatItHas);
        Due.sentence("at most what it has", BoundaryTurnBackTest::fuelWithoutAWay);
        Due.sentence("RESTS as many hours as it was out, all together, and is full",
                BoundaryTurnBackTest::restsForThereAndBack);
        Due.end();
    }

    /** OUT for a call in cell 4, where it is to be in hour 5; it bears storms up to 3. */
    private static Rescuemarket outForCell4() {
        return Sea.outFor(4, 1, 20, 3);
    }

    private static void doneOnesGoHome() {
        Rescuemarket market = outForCell4();
        market.pass(4);
        Due.boatIs("hour 5", market, 0, OUT, NONE, 9, 12);
        market.foretell(0, 47, 5, 999, 9);
        market.pass(1);
        Due.boatIs("hour 6, in the storm", market, 0, OUT, NONE, 9, 12);
        Due.callIs("hour 6", market, 0, DONE, 0, 1, 45);
        market.pass(3);
        Due.boatIs("hour 9", market, 0, RESTS, NONE, 17, 20);
        Due.callIs("hour 9", market, 0, DONE, 0, 1, 45);
    }

    private static void turnedBackOnesGoHome() {
        Rescuemarket market = outForCell4();
        market.foretell(4, 4, 5, 5, 9);
        market.pass(2);
        Due.boatIs("hour 3: home since one hour's way back", market, 0, RESTS, NONE, 5, 20);
        Rescuemarket other = outForCell4();
        other.pass(1);
        other.foretell(0, 47, 2, 999, 9);
        other.pass(1);
        Due.boatIs("hour 3: turns back", other, 0, OUT, NONE, 5, 16);
        other.pass(1);
        Due.boatIs("hour 4: not once more", other, 0, OUT, NONE, 5, 16);
    }

    private static void inTheHourOfArrival() {
        Rescuemarket market = outForCell4();
        market.pass(3);
        market.foretell(4, 4, 5, 5, 4);
        market.pass(1);
        Due.boatIs("hour 5", market, 0, OUT, NONE, 9, 12);
        Due.callIs("hour 5", market, 0, OPEN, 0, 1, 0);
        Due.gotAre("hour 5", market, 0, 0, 0);
    }

    private static void foretoldByNow() {
        Rescuemarket market = outForCell4();
        market.foretell(4, 4, 5, 5, 9);
        market.foretell(4, 4, 5, 5, 3);
        market.pass(1);
        Due.boatIs("hour 2: foretold anew in time", market, 0, OUT, 0, 5, 20);
        market.foretell(4, 4, 5, 5, 4);
        Due.boatIs("hour 2: it looks when an hour goes by", market, 0, OUT, 0, 5, 20);
        market.pass(1);
        market.foretell(4, 4, 5, 5, 0);
        Due.boatIs("hour 3: foretold anew too late", market, 0, OUT, NONE, 5, 16);
    }

    private static void cellOfItsCall() {
        Rescuemarket market = outForCell4();
        market.foretell(0, 3, 1, 999, 9);
        market.foretell(5, 7, 1, 999, 9);
        market.foretell(8, 47, 1, 999, 9);
        market.pass(4);
        Due.callIs("storms in all cells but its own", market, 0, DONE, 0, 1, 45);
        Rescuemarket other = outForCell4();
        other.foretell(4, 4, 1, 999, 9);
        other.pass(1);
        Due.callIs("a storm in its own alone", other, 0, OPEN, 0, 1, 0);
    }

    private static void hourOfArrival() {
        Rescuemarket market = outForCell4();
        market.foretell(4, 4, 1, 4, 9);
        market.foretell(4, 4, 6, 999, 9);
        market.pass(4);
        Due.callIs("storms in all hours but 5", market, 0, DONE, 0, 1, 45);
        Rescuemarket other = outForCell4();
        other.foretell(4, 4, 5, 5, 9);
        other.pass(1);
        Due.callIs("a storm in hour 5 alone", other, 0, OPEN, 0, 1, 0);
    }

    private static void moreThanItBears() {
        for (int bears = 0; bears <= 9; bears++) {
            for (int storm = 0; storm <= 9; storm++) {
                Rescuemarket market = Sea.outFor(4, 1, 20, bears);
                market.foretell(4, 4, 5, 5, storm);
                market.pass(1);
                int due = storm > bears ? NONE : 0;
                Due.is("bears " + bears + ", foretold " + storm, due, market.ofBoat(0, 1));
            }
        }
    }

    private static void callIsOpen() {
        Rescuemarket market = outForCell4();
        market.foretell(4, 4, 5, 999, 4);
        market.pass(1);
        Due.callIs("turned back", market, 0, OPEN, 0, 1, 0);
        Due.boatIs("turned back", market, 0, OUT, NONE, 3, 18);
        market.foretell(4, 4, 2, 999, 0);
        market.pass(3);
        Due.callIs("tasked once more when it has rested", market, 0, TASKED, 0, 2, 0);
        Due.boatIs("tasked once more", market, 0, OUT, 0, 9, 20);
    }

    /** The second boat is the slower one for the call: it is tasked only when the first has turned back. */
    private static void anotherIsTaskedInTheSameHour() {
        Rescuemarket market = new Rescuemarket();
        market.boat(0, 0, 2, 20, 3);
        market.boat(0, 0, 1, 20, 4);
        market.call(4, 1, 99);
        market.pass(1);
        Due.callIs("hour 1", market, 0, TASKED, 0, 1, 0);
        market.foretell(4, 4, 3, 99, 4);
        market.pass(1);
        Due.callIs("hour 2", market, 0, TASKED, 1, 2, 0);
        Due.boatIs("hour 2: the first", market, 0, OUT, NONE, 3, 16);
        Due.boatIs("hour 2: the second", market, 1, OUT, 0, 6, 20);
    }

    /** Tasked in hour 1 it may turn back from hour 2, out for one hour, to hour 6, out for five. */
    private static void homeAsManyHoursLater() {
        for (int out = 1; out <= 5; out++) {
            Rescuemarket market = Sea.outFor(5, 1, 20, 3);
            Sea.pass(market, out - 1);
            market.foretell(5, 5, 6, 6, 4);
            market.pass(1);
            Due.boatIs("out for " + out, market, 0, OUT, NONE, 1 + 2 * out, 20 - 2 * out);
            Sea.pass(market, out - 1);
            Due.boatIs("an hour before", market, 0, OUT, NONE, 1 + 2 * out, 20 - 2 * out);
            market.pass(1);
            Due.boatIs("home", market, 0, RESTS, NONE, 1 + 4 * out, 20);
        }
    }

    private static void fuelBySpeed() {
        for (int speed = 1; speed <= 3; speed++) {
            int hoursThere = speed == 1 ? 5 : 3;
            int cell = speed == 1 ? 5 : speed == 2 ? 6 : 15;
            for (int out = 1; out <= hoursThere; out++) {
                Rescuemarket market = Sea.outFor(cell, speed, 100, 3);
                Due.boatIs("is to be there", market, 0, OUT, 0, 1 + hoursThere, 100);
                Sea.pass(market, out - 1);
                market.foretell(cell, cell, 1 + hoursThere, 1 + hoursThere, 4);
                market.pass(1);
                String when = "speed " + speed + ", out for " + out;
                Due.boatIs(when, market, 0, OUT, NONE, 1 + 2 * out, 100 - 2 * speed * out);
            }
        }
    }

    /** Four cells by three an hour are two hours: by then it has used 12, if it has as much. */
    private static void fuelAtMostWhatItHas() {
        for (int fuel = 8; fuel <= 14; fuel++) {
            Rescuemarket market = Sea.outFor(4, 3, fuel, 3);
            market.pass(1);
            market.foretell(4, 4, 3, 3, 4);
            market.pass(1);
            Due.boatIs("of " + fuel, market, 0, OUT, NONE, 5, fuel > 12 ? fuel - 12 : 0);
            market.pass(2);
            Due.boatIs("full at home, " + fuel, market, 0, RESTS, NONE, 9, fuel);
        }
    }

    /** A call in its home's cell is an hour's task without a way; to turn back costs fuel all the same. */
    private static void fuelWithoutAWay() {
        for (int fuel = 1; fuel <= 7; fuel++) {
            Rescuemarket market = Sea.outFor(0, 3, fuel, 3);
            market.foretell(0, 0, 2, 2, 4);
            market.pass(1);
            Due.boatIs("of " + fuel, market, 0, OUT, NONE, 3, fuel > 6 ? fuel - 6 : 0);
        }
    }

    private static void restsForThereAndBack() {
        for (int out = 1; out <= 5; out++) {
            Rescuemarket market = Sea.outFor(5, 1, 20, 3);
            Sea.pass(market, out - 1);
            market.foretell(5, 5, 6, 99, 4);
            Sea.pass(market, 1 + out + 2 * out - 1);
            Due.boatIs("an hour before, out for " + out, market, 0, RESTS, NONE, 1 + 4 * out, 20);
            market.pass(1);
            Due.boatIs("rested, out for " + out, market, 0, FREE, NONE, NONE, 20);
        }
    }
}
