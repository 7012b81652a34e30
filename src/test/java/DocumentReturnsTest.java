/** What each method returns, and the sentences of the terms that name no boundary. */
public final class DocumentReturnsTest {
    public static void main(String[] args) {
        Due.sentence("FREE = 0, OUT = 1, RESTS = 2: How boats are.", DocumentReturnsTest::howBoatsAre);
        Due.sentence("OPEN = 0, TASKED = 1, DONE = 2, LOST = 3: How calls are.", DocumentReturnsTest::howCallsAre);
        Due.sentence("a boat is of a club, 0 to 2, has a home, a speed, 1 to 3 cells an hour",
                DocumentReturnsTest::clubHomeAndSpeed);
        Due.sentence("the greatest storm that it bears", DocumentReturnsTest::greatestStorm);
        Due.sentence("a call is of a cell, with a need, 1 to 50 people", DocumentReturnsTest::cellAndNeed);
        Due.sentence("Brings a boat. ... Returns its number.", DocumentReturnsTest::boatsNumber);
        Due.sentence("Takes a call. ... Returns its number.", DocumentReturnsTest::callsNumber);
        Due.sentence("Lends a boat. ... boat: its number", DocumentReturnsTest::lendsThatBoat);
        Due.sentence("Lets hours go by.", DocumentReturnsTest::hoursAtOnceOrOneByOne);
        Due.sentence("Returns the storm that is foretold. ... Returns the storm.", DocumentReturnsTest::theStorm);
        Due.sentence("Tells something of a boat. ... Returns the number.", DocumentReturnsTest::ofEachBoat);
        Due.sentence("Tells something of a call. ... Returns the number.", DocumentReturnsTest::ofEachCall);
        Due.sentence("Returns the same, found from the log of tasks and of calls that were DONE.",
                DocumentReturnsTest::theSameFromTheLog);
        Due.sentence("The premium of a cell is, as floats, ... Returns the premium.", DocumentReturnsTest::thePremium);
        Due.sentence("Nothing is promised beyond the answers and state changes described above",
                DocumentReturnsTest::askingChangesNothing);
        Due.end();
    }

    private static void howBoatsAre() {
        Rescuemarket market = Sea.withBoat(1, 9, 0);
        market.call(1, 1, 9);
        Due.is("not tasked", 0, market.ofBoat(0, 0));
        market.pass(1);
        Due.is("on its way there", 1, market.ofBoat(0, 0));
        market.pass(1);
        Due.is("on its way home", 1, market.ofBoat(0, 0));
        market.pass(1);
        Due.is("home again", 2, market.ofBoat(0, 0));
        market.pass(1);
        Due.is("an hour of its rest left", 2, market.ofBoat(0, 0));
        market.pass(1);
        Due.is("rested", 0, market.ofBoat(0, 0));
    }

    private static void howCallsAre() {
        Rescuemarket market = Sea.withBoat(1, 9, 0);
        market.call(2, 1, 9);
        market.call(3, 1, 1);
        Due.is("taken", 0, market.ofCall(0, 0));
        market.pass(1);
        Due.is("a boat is on its way", 1, market.ofCall(0, 0));
        Due.is("none is, in its last hour", 0, market.ofCall(1, 0));
        market.pass(1);
        Due.is("none came", 3, market.ofCall(1, 0));
        market.pass(1);
        Due.is("reached", 2, market.ofCall(0, 0));
    }

    private static void clubHomeAndSpeed() {
        for (int club = 0; club < 3; club++) {
            for (int speed = 1; speed <= 3; speed++) {
                Rescuemarket market = new Rescuemarket();
                market.boat(club, 20, speed, 100, 0);
                market.call(36, 1, 99);
                market.pass(1);
                int[] hoursFor2Cells = {0, 2, 1, 1};
                int there = 1 + hoursFor2Cells[speed];
                Due.boatIs("2 cells from its home", market, 0, Rescuemarket.OUT, 0, there, 100);
                market.pass(there);
                for (int other = 0; other < 3; other++) {
                    Due.is("to its club alone", other == club ? 25 : 0, market.rewards(other));
                }
            }
        }
    }

    private static void greatestStorm() {
        for (int bears = 0; bears <= 9; bears++) {
            for (int storm = 0; storm <= 9; storm++) {
                Rescuemarket market = Sea.withBoat(1, 100, bears);
                market.call(1, 1, 99);
                market.foretell(1, 1, 0, 999, storm);
                market.pass(1);
                int due = storm > bears ? Rescuemarket.OPEN : Rescuemarket.TASKED;
                Due.is("storm " + storm + ", bears " + bears, due, market.ofCall(0, 0));
            }
        }
    }

    private static void cellAndNeed() {
        for (int need = 1; need <= 50; need++) {
            Rescuemarket market = Sea.withBoat(3, 100, 0);
            market.cap(1000);
            market.call(need % 7, need, 99);
            market.pass(5);
            Due.is(need + " people", 10 * (need % 7) + 5 * need, market.ofCall(0, 3));
        }
    }

    private static void boatsNumber() {
        Rescuemarket market = new Rescuemarket();
        for (int number = 0; number < 6; number++) {
            Due.is("boat", number, market.boat(number % 3, 47 - number, 3, 90 + number, number));
            Due.fails("one that is refused takes no number", Due.BAD_ARGUMENT, () -> market.boat(0, 0, 0, 1, 0));
            market.pass(1);
        }
        for (int number = 0; number < 6; number++) {
            Due.is("its fuel", 90 + number, market.ofBoat(number, 3));
            Due.is("its club", number % 3, market.lend(number, 0));
        }
    }

    private static void callsNumber() {
        Rescuemarket market = new Rescuemarket();
        for (int number = 0; number < 30; number++) {
            Due.is("call", number, market.call(number, 1, number + 1));
            Due.fails("one that is refused takes no number", Due.BAD_ARGUMENT, () -> market.call(0, 0, 1000));
            market.pass(1);
        }
        market.boat(0, 29, 1, 9, 0);
        for (int number = 0; number < 29; number++) {
            Due.is("its last hour is gone", Rescuemarket.LOST, market.ofCall(number, 0));
        }
        Due.is("its last hour is now", Rescuemarket.OPEN, market.ofCall(29, 0));
    }

    private static void lendsThatBoat() {
        Rescuemarket market = Sea.withBoats(6);
        market.lend(4, 2);
        for (int boat = 0; boat < 6; boat++) {
            Due.is("boat " + boat, boat == 4 ? 2 : boat % 3, market.lend(boat, 0));
        }
    }

    private static void hoursAtOnceOrOneByOne() {
        for (int hours = 1; hours <= 48; hours++) {
            Rescuemarket atOnce = busy();
            Rescuemarket oneByOne = busy();
            Due.is("the hour", hours, atOnce.pass(hours));
            for (int hour = 1; hour <= hours; hour++) {
                Due.is("the hour", hour, oneByOne.pass(1));
            }
            Due.is("all of " + hours + " hours", Sight.of(oneByOne), Sight.of(atOnce));
        }
    }

    /** Boats, calls and storms for days; nothing of it is special. */
    private static Rescuemarket busy() {
        Rescuemarket market = new Rescuemarket();
        for (int boat = 0; boat < 4; boat++) {
            market.boat(boat % 3, boat * 13, 1 + boat % 3, 20 + 9 * boat, 2 * boat);
        }
        for (int call = 0; call < 20; call++) {
            market.call(call * 7 % 48, 1 + call * 2, 3 + 3 * call);
        }
        market.lend(1, 0);
        market.foretell(0, 37, 6, 14, 3);
        market.foretell(10, 47, 20, 30, 5);
        return market;
    }

    private static void theStorm() {
        Rescuemarket market = new Rescuemarket();
        for (int cell = 0; cell < 48; cell++) {
            market.foretell(cell, cell, cell, 999 - cell, 1 + cell % 9);
        }
        for (int cell = 0; cell < 48; cell++) {
            Due.is("before", 0, cell == 0 ? 0 : market.storm(cell, cell - 1));
            Due.is("first", 1 + cell % 9, market.storm(cell, cell));
            Due.is("last", 1 + cell % 9, market.storm(cell, 999 - cell));
            Due.is("behind", 0, cell == 0 ? 0 : market.storm(cell, 1000 - cell));
        }
    }

    private static void ofEachBoat() {
        Rescuemarket market = new Rescuemarket();
        for (int boat = 0; boat < 6; boat++) {
            market.boat(0, 8 * boat, 1, 50 + boat, 0);
        }
        for (int boat = 5; boat >= 1; boat--) {
            market.call(8 * boat + boat, 1, 1 + boat);
        }
        market.pass(1);
        Due.boatIs("no call for it", market, 0, Rescuemarket.FREE, Rescuemarket.NONE, Rescuemarket.NONE, 50);
        for (int boat = 1; boat < 6; boat++) {
            Due.boatIs("its row's call", market, boat, Rescuemarket.OUT, 5 - boat, 1 + boat, 50 + boat);
        }
        market.pass(3);
        Due.boatIs("hour 4: it rests for 2", market, 1, Rescuemarket.RESTS, Rescuemarket.NONE, 5, 51);
        Due.boatIs("hour 4: done in hour 3", market, 2, Rescuemarket.OUT, Rescuemarket.NONE, 5, 48);
        Due.boatIs("hour 4: done in this hour", market, 3, Rescuemarket.OUT, Rescuemarket.NONE, 7, 47);
        Due.boatIs("hour 4: on its way", market, 4, Rescuemarket.OUT, 1, 5, 54);
        Due.boatIs("hour 4: on its way", market, 5, Rescuemarket.OUT, 0, 6, 55);
    }

    private static void ofEachCall() {
        Rescuemarket market = new Rescuemarket();
        market.boat(0, 0, 1, 50, 0);
        market.boat(0, 47, 1, 50, 0);
        market.call(45, 8, 99);
        market.call(20, 8, 1);
        market.call(1, 3, 99);
        market.call(0, 3, 99);
        market.pass(2);
        Due.callIs("hour 2", market, 0, Rescuemarket.TASKED, 1, 1, 0);
        Due.callIs("hour 2", market, 1, Rescuemarket.LOST, Rescuemarket.NONE, 0, 0);
        Due.callIs("hour 2", market, 2, Rescuemarket.DONE, 0, 1, 25);
        Due.callIs("hour 2", market, 3, Rescuemarket.OPEN, Rescuemarket.NONE, 0, 0);
        market.pass(1);
        Due.callIs("hour 3", market, 0, Rescuemarket.DONE, 1, 1, 60);
    }

    private static void theSameFromTheLog() {
        Rescuemarket market = busy();
        for (int hour = 1; hour <= 45; hour++) {
            market.pass(1);
            market.lend(hour % 4, hour % 3);
            market.cap(hour * 37 % 201);
            for (int club = 0; club < 3; club++) {
                Due.is("hour " + hour + ", club " + club, market.rewards(club), market.rewardsAnew(club));
            }
        }
        int paid = market.rewardsAnew(0) + market.rewardsAnew(1) + market.rewardsAnew(2);
        int brought = 0;
        for (int call = 0; call < 20; call++) {
            brought += market.ofCall(call, 3);
        }
        Due.is("what the calls brought is what the clubs got", brought, paid);
        Due.is("it is something", true, paid > 0);
    }

    private static void thePremium() {
        for (int storm = 0; storm <= 9; storm++) {
            Rescuemarket market = new Rescuemarket();
            market.foretell(30, 30, 0, 0, storm);
            for (int calls = 0; calls <= 30; calls++) {
                Due.is("storm " + storm + ", calls " + calls, storm * 3 / 2f + calls / 4f, market.premium(30));
                if (calls < 30) {
                    market.call(30, 1, 9);
                }
            }
        }
    }

    private static void askingChangesNothing() {
        for (int hours = 1; hours <= 40; hours += 3) {
            Rescuemarket asked = busy();
            Rescuemarket notAsked = busy();
            for (int hour = 1; hour <= hours; hour++) {
                askOnce(asked, hour);
                asked.pass(1);
                notAsked.pass(1);
            }
            Due.is("asked in each of " + hours + " hours", Sight.of(notAsked), Sight.of(asked));
        }
    }

    private static void askOnce(Rescuemarket market, int hour) {
        market.storm(hour % 48, hour);
        market.ofBoat(hour % 4, hour % 4);
        market.ofCall(hour % 20, hour % 4);
        market.rewards(hour % 3);
        market.rewardsAnew(hour % 3);
        market.premium(hour % 48);
    }
}
