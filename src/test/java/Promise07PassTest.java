/** Promise 7: pass, with all that happens in an hour. */
public final class Promise07PassTest {
    private static final int FREE = Rescuemarket.FREE;
    private static final int OUT = Rescuemarket.OUT;
    private static final int RESTS = Rescuemarket.RESTS;
    private static final int OPEN = Rescuemarket.OPEN;
    private static final int TASKED = Rescuemarket.TASKED;
    private static final int DONE = Rescuemarket.DONE;
    private static final int LOST = Rescuemarket.LOST;
    private static final int NONE = Rescuemarket.NONE;

    public static void main(String[] args) {
        answers();
        wrong();
        roundOfOneBoat();
        turnsBack();
        turnsBackInTheHourOfArrival();
        turnsBackOnItsLastFuel();
        anotherBoatTakesTheCall();
        bearsJustAsMuch();
        inTime();
        fuelThereAndBack();
        outTenHours();
        firstThereThenLowest();
        risingCalls();
        lost();
        homeBehindTheLastHour();
        Due.end();
    }

    private static void answers() {
        Rescuemarket market = new Rescuemarket();
        Due.is("one hour", 1, market.pass(1));
        Due.is("the most at once", 49, market.pass(48));
        for (int hour = 49; hour + 48 <= 999; hour += 48) {
            Due.is("the hour", hour + 48, market.pass(48));
        }
        Due.is("up to the last", 998, market.pass(998 - 961));
        Due.fails("above 999", Due.BAD_STATE, () -> market.pass(2));
        Due.is("just 999", 999, market.pass(1));
        Due.changesNothing("no hour is left", market, Due.BAD_STATE, () -> market.pass(1), () -> market.pass(48));
        Due.fails("the range is first", Due.BAD_ARGUMENT, () -> market.pass(49));
    }

    private static void wrong() {
        Rescuemarket market = new Rescuemarket();
        market.boat(0, 0, 1, 10, 0);
        market.call(1, 1, 9);
        Due.changesNothing("out of range", market, Due.BAD_ARGUMENT,
                () -> market.pass(0),
                () -> market.pass(-1),
                () -> market.pass(49),
                () -> market.pass(Integer.MAX_VALUE),
                () -> market.pass(Integer.MIN_VALUE));
        Due.is("the hour is as before", 1, market.pass(1));
    }

    private static void roundOfOneBoat() {
        Rescuemarket market = new Rescuemarket();
        market.boat(1, 9, 2, 40, 0);
        market.call(20, 3, 50);
        market.call(9, 4, 50);
        Due.boatIs("hour 0", market, 0, FREE, NONE, NONE, 40);
        market.pass(1);
        Due.boatIs("hour 1", market, 0, OUT, 0, 3, 40);
        Due.callIs("hour 1", market, 0, TASKED, 0, 1, 0);
        Due.callIs("hour 1", market, 1, OPEN, NONE, 0, 0);
        market.pass(1);
        Due.boatIs("hour 2", market, 0, OUT, 0, 3, 40);
        market.pass(1);
        Due.boatIs("hour 3", market, 0, OUT, NONE, 5, 32);
        Due.callIs("hour 3", market, 0, DONE, 0, 1, 55);
        market.pass(1);
        Due.boatIs("hour 4", market, 0, OUT, NONE, 5, 32);
        market.pass(1);
        Due.boatIs("hour 5", market, 0, RESTS, NONE, 9, 40);
        market.pass(3);
        Due.boatIs("hour 8", market, 0, RESTS, NONE, 9, 40);
        market.pass(1);
        Due.boatIs("hour 9: free and tasked in one", market, 0, OUT, 1, 10, 40);
        market.pass(1);
        Due.boatIs("hour 10: no way, no fuel", market, 0, OUT, NONE, 11, 40);
        Due.callIs("hour 10", market, 1, DONE, 0, 1, 20);
        market.pass(1);
        Due.boatIs("hour 11", market, 0, RESTS, NONE, 13, 40);
        market.pass(2);
        Due.boatIs("hour 13", market, 0, FREE, NONE, NONE, 40);
        Due.is("both are paid", 75, market.rewards(1));
    }

    private static void turnsBack() {
        Rescuemarket market = new Rescuemarket();
        market.boat(0, 0, 1, 20, 3);
        market.call(5, 10, 40);
        market.pass(1);
        Due.boatIs("hour 1", market, 0, OUT, 0, 6, 20);
        market.pass(2);
        market.foretell(5, 5, 6, 6, 4);
        Due.boatIs("not before the next hour", market, 0, OUT, 0, 6, 20);
        market.foretell(5, 5, 7, 30, 4);
        market.pass(1);
        Due.boatIs("hour 4: out for 3 hours", market, 0, OUT, NONE, 7, 14);
        Due.callIs("hour 4", market, 0, OPEN, 0, 1, 0);
        market.pass(3);
        Due.boatIs("hour 7: it was out for 6", market, 0, RESTS, NONE, 13, 20);
        market.pass(6);
        Due.boatIs("hour 13: there in a storm still", market, 0, FREE, NONE, NONE, 20);
        market.pass(12);
        Due.callIs("hour 25: there in hour 30", market, 0, OPEN, 0, 1, 0);
        market.pass(1);
        Due.callIs("hour 26: there in hour 31", market, 0, TASKED, 0, 2, 0);
        market.pass(5);
        Due.callIs("hour 31", market, 0, DONE, 0, 2, 100);
        Due.is("once", 100, market.rewards(0));
        Due.is("once, anew", 100, market.rewardsAnew(0));
    }

    private static void turnsBackInTheHourOfArrival() {
        Rescuemarket market = new Rescuemarket();
        market.boat(0, 0, 1, 20, 3);
        market.call(3, 10, 40);
        market.pass(3);
        market.foretell(3, 3, 4, 4, 9);
        market.pass(1);
        Due.boatIs("hour 4", market, 0, OUT, NONE, 7, 14);
        Due.callIs("hour 4", market, 0, OPEN, 0, 1, 0);
        Due.is("no reward", 0, market.rewards(0));
    }

    private static void turnsBackOnItsLastFuel() {
        Rescuemarket market = new Rescuemarket();
        market.boat(0, 0, 3, 9, 3);
        market.boat(0, 0, 3, 8, 3);
        market.call(4, 10, 40);
        market.call(4, 10, 40);
        market.pass(2);
        market.foretell(4, 4, 3, 999, 9);
        market.pass(1);
        Due.boatIs("12 of its 9", market, 0, OUT, NONE, 5, 0);
        Due.boatIs("12 of its 8", market, 1, OUT, NONE, 5, 0);
        market.pass(2);
        Due.boatIs("full at home", market, 0, RESTS, NONE, 9, 9);
        Due.boatIs("full at home", market, 1, RESTS, NONE, 9, 8);
    }

    private static void anotherBoatTakesTheCall() {
        Rescuemarket market = new Rescuemarket();
        market.boat(0, 0, 1, 20, 3);
        market.boat(1, 0, 1, 20, 9);
        market.call(3, 10, 9);
        market.pass(1);
        Due.callIs("hour 1", market, 0, TASKED, 0, 1, 0);
        market.foretell(3, 3, 4, 9, 5);
        market.pass(1);
        Due.callIs("hour 2: at once", market, 0, TASKED, 1, 2, 0);
        Due.boatIs("hour 2", market, 0, OUT, NONE, 3, 18);
        Due.boatIs("hour 2", market, 1, OUT, 0, 5, 20);
        market.pass(3);
        Due.is("the one that did it", 80, market.rewards(1));
        Due.is("not the other", 0, market.rewards(0));
        Due.is("the one that did it, anew", 80, market.rewardsAnew(1));
        Due.is("not the other, anew", 0, market.rewardsAnew(0));
    }

    private static void bearsJustAsMuch() {
        Rescuemarket market = new Rescuemarket();
        market.boat(0, 0, 1, 20, 3);
        market.call(2, 10, 9);
        market.foretell(2, 2, 3, 3, 4);
        market.foretell(2, 2, 4, 4, 3);
        market.pass(1);
        Due.callIs("more than it bears", market, 0, OPEN, NONE, 0, 0);
        market.pass(1);
        Due.callIs("as much as it bears", market, 0, TASKED, 0, 1, 0);
        market.foretell(0, 1, 2, 9, 9);
        market.foretell(2, 2, 2, 3, 9);
        market.foretell(2, 2, 5, 9, 9);
        market.pass(2);
        Due.callIs("storms on the way do not matter", market, 0, DONE, 0, 1, 70);
    }

    private static void inTime() {
        Rescuemarket market = new Rescuemarket();
        market.boat(0, 0, 2, 20, 0);
        market.call(3, 1, 2);
        market.pass(1);
        Due.callIs("rounded up: an hour late", market, 0, OPEN, NONE, 0, 0);
        Rescuemarket other = new Rescuemarket();
        other.boat(0, 0, 2, 20, 0);
        other.call(3, 1, 3);
        other.pass(1);
        Due.callIs("just in time", other, 0, TASKED, 0, 1, 0);
        Rescuemarket near = new Rescuemarket();
        near.boat(0, 0, 3, 20, 0);
        near.call(0, 1, 1);
        near.pass(1);
        Due.callIs("an hour at least", near, 0, OPEN, NONE, 0, 0);
    }

    private static void fuelThereAndBack() {
        Rescuemarket market = new Rescuemarket();
        market.boat(0, 0, 3, 23, 0);
        market.call(47, 1, 5);
        market.pass(1);
        Due.callIs("23 of 24", market, 0, OPEN, NONE, 0, 0);
        market.boat(0, 0, 3, 24, 0);
        market.pass(1);
        Due.callIs("late", market, 0, OPEN, NONE, 0, 0);
        market.call(47, 1, 7);
        market.pass(1);
        Due.callIs("just enough", market, 1, TASKED, 1, 1, 0);
        Due.boatIs("there in 4 hours", market, 1, OUT, 1, 7, 24);
        market.pass(4);
        Due.boatIs("all is used", market, 1, OUT, NONE, 11, 0);
    }

    private static void outTenHours() {
        Rescuemarket market = new Rescuemarket();
        market.boat(0, 0, 1, 100, 0);
        market.call(6, 1, 99);
        market.call(5, 1, 99);
        market.pass(1);
        Due.callIs("6 hours there", market, 0, OPEN, NONE, 0, 0);
        Due.callIs("5 hours there", market, 1, TASKED, 0, 1, 0);
        // A storm keeps the second boat from call 0.
        market.foretell(6, 6, 1, 999, 1);
        market.boat(0, 0, 2, 100, 0);
        market.call(47, 1, 99);
        market.call(46, 1, 99);
        market.call(45, 1, 99);
        market.pass(1);
        Due.callIs("12 by 2", market, 2, OPEN, NONE, 0, 0);
        Due.callIs("11 by 2, rounded up", market, 3, OPEN, NONE, 0, 0);
        Due.callIs("10 by 2", market, 4, TASKED, 1, 1, 0);
    }

    private static void firstThereThenLowest() {
        Rescuemarket market = new Rescuemarket();
        market.boat(0, 0, 1, 100, 0);
        market.boat(0, 3, 1, 100, 0);
        market.boat(0, 0, 3, 100, 0);
        market.boat(0, 0, 3, 100, 0);
        market.call(5, 1, 99);
        market.call(5, 1, 99);
        market.call(5, 1, 99);
        market.call(5, 1, 99);
        market.pass(1);
        Due.callIs("2 hours, the lowest", market, 0, TASKED, 1, 1, 0);
        Due.callIs("2 hours too", market, 1, TASKED, 2, 1, 0);
        Due.callIs("2 hours, the last", market, 2, TASKED, 3, 1, 0);
        Due.callIs("5 hours", market, 3, TASKED, 0, 1, 0);
    }

    private static void risingCalls() {
        Rescuemarket market = new Rescuemarket();
        market.boat(0, 0, 1, 100, 0);
        market.call(4, 1, 99);
        market.call(1, 50, 3);
        market.pass(1);
        Due.callIs("the lowest call is first", market, 0, TASKED, 0, 1, 0);
        Due.callIs("no boat is left", market, 1, OPEN, NONE, 0, 0);
    }

    private static void lost() {
        Rescuemarket market = new Rescuemarket();
        market.call(4, 1, 3);
        market.pass(3);
        Due.callIs("its last hour", market, 0, OPEN, NONE, 0, 0);
        market.boat(0, 4, 3, 100, 9);
        market.pass(1);
        Due.callIs("behind it", market, 0, LOST, NONE, 0, 0);
        market.pass(5);
        Due.callIs("it stays", market, 0, LOST, NONE, 0, 0);
        Due.boatIs("no boat for it", market, 0, FREE, NONE, NONE, 100);
        market.call(4, 1, 11);
        market.pass(1);
        market.foretell(4, 4, 11, 999, 9);
        market.pass(1);
        Due.callIs("DONE in its last hour", market, 1, DONE, 0, 1, 5);
        market.pass(3);
        Due.callIs("it stays DONE", market, 1, DONE, 0, 1, 5);
    }

    private static void homeBehindTheLastHour() {
        Rescuemarket market = new Rescuemarket();
        market.boat(0, 0, 1, 100, 0);
        for (int hour = 48; hour <= 960; hour += 48) {
            market.pass(48);
        }
        market.pass(33);
        market.call(5, 1, 999);
        market.pass(1);
        Due.boatIs("hour 994", market, 0, OUT, 0, 999, 100);
        market.pass(5);
        Due.callIs("hour 999", market, 0, DONE, 0, 1, 55);
        Due.boatIs("hour 999", market, 0, OUT, NONE, 1004, 90);
    }
}
