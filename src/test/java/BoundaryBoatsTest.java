/** The boundaries that the document names for boats, those that are brought and those that are lent. */
public final class BoundaryBoatsTest {
    private static final int FREE = Rescuemarket.FREE;
    private static final int OUT = Rescuemarket.OUT;
    private static final int RESTS = Rescuemarket.RESTS;
    private static final int NONE = Rescuemarket.NONE;

    public static void main(String[] args) {
        Due.sentence("Boats are numbered from 0, at most 6", BoundaryBoatsTest::atMostSix);
        Due.sentence("Throws IllegalStateException if there are 6", BoundaryBoatsTest::sevenBoats);
        Due.sentence("club: 0 to 2", BoundaryBoatsTest::clubs);
        Due.sentence("home: 0 to 47", BoundaryBoatsTest::homes);
        Due.sentence("speed: 1 to 3", BoundaryBoatsTest::speeds);
        Due.sentence("fuel: 1 to 100", BoundaryBoatsTest::fuels);
        Due.sentence("bears: 0 to 9", BoundaryBoatsTest::bears);
        Due.sentence("fuel, as much as it holds at first", BoundaryBoatsTest::fullAtFirst);
        Due.sentence("A boat is FREE, OUT, or RESTS.", BoundaryBoatsTest::states);
        Due.sentence("At home it is full of fuel again.", BoundaryBoatsTest::fullAtHome);
        Due.sentence("It may be lent to another club; that it is, from the next task on",
                BoundaryBoatsTest::lentFromTheNextTaskOn);
        Due.sentence("until it is lent anew", BoundaryBoatsTest::lentAnew);
        Due.sentence("also back to its own one", BoundaryBoatsTest::lentBack);
        Due.sentence("Returns the club to which it was lent, or its own", BoundaryBoatsTest::clubBefore);
        Due.sentence("Throws IndexOutOfBoundsException if there is no such boat or club", BoundaryBoatsTest::lendWrong);
        Due.end();
    }

    private static void atMostSix() {
        Rescuemarket market = new Rescuemarket();
        for (int number = 0; number < 6; number++) {
            Due.is("its number", number, market.boat(0, 0, 1, 1, 0));
            Due.is("it is there", FREE, market.ofBoat(number, 0));
        }
    }

    private static void sevenBoats() {
        Rescuemarket market = Sea.withBoats(6);
        Due.fails("a seventh", Due.BAD_STATE, () -> market.boat(0, 0, 1, 1, 0));
        Due.fails("it is not there", Due.NO_SUCH, () -> market.ofBoat(6, 0));
        Due.fails("nor once six are OUT", Due.BAD_STATE, () -> {
            market.call(0, 1, 9);
            market.pass(1);
            return market.boat(2, 47, 3, 100, 9);
        });
    }

    private static void clubs() {
        Rescuemarket market = new Rescuemarket();
        Due.fails("-1", Due.NO_SUCH, () -> market.boat(-1, 0, 1, 1, 0));
        Due.is("0", 0, market.boat(0, 0, 1, 1, 0));
        Due.is("2", 1, market.boat(2, 0, 1, 1, 0));
        Due.fails("3", Due.NO_SUCH, () -> market.boat(3, 0, 1, 1, 0));
    }

    private static void homes() {
        Rescuemarket market = new Rescuemarket();
        Due.fails("-1", Due.NO_SUCH, () -> market.boat(0, -1, 1, 1, 0));
        Due.is("0", 0, market.boat(0, 0, 1, 1, 0));
        Due.is("47", 1, market.boat(0, 47, 1, 1, 0));
        Due.fails("48", Due.NO_SUCH, () -> market.boat(0, 48, 1, 1, 0));
    }

    private static void speeds() {
        Rescuemarket market = new Rescuemarket();
        Due.fails("0", Due.BAD_ARGUMENT, () -> market.boat(0, 0, 0, 1, 0));
        Due.is("1", 0, market.boat(0, 0, 1, 1, 0));
        Due.is("3", 1, market.boat(0, 0, 3, 1, 0));
        Due.fails("4", Due.BAD_ARGUMENT, () -> market.boat(0, 0, 4, 1, 0));
    }

    private static void fuels() {
        Rescuemarket market = new Rescuemarket();
        Due.fails("0", Due.BAD_ARGUMENT, () -> market.boat(0, 0, 1, 0, 0));
        Due.is("1", 0, market.boat(0, 0, 1, 1, 0));
        Due.is("100", 1, market.boat(0, 0, 1, 100, 0));
        Due.fails("101", Due.BAD_ARGUMENT, () -> market.boat(0, 0, 1, 101, 0));
    }

    private static void bears() {
        Rescuemarket market = new Rescuemarket();
        Due.fails("-1", Due.BAD_ARGUMENT, () -> market.boat(0, 0, 1, 1, -1));
        Due.is("0", 0, market.boat(0, 0, 1, 1, 0));
        Due.is("9", 1, market.boat(0, 0, 1, 1, 9));
        Due.fails("10", Due.BAD_ARGUMENT, () -> market.boat(0, 0, 1, 1, 10));
    }

    private static void fullAtFirst() {
        for (int fuel = 1; fuel <= 100; fuel++) {
            Due.boatIs("brought", Sea.withBoat(1, fuel, 0), 0, FREE, NONE, NONE, fuel);
        }
    }

    private static void states() {
        Rescuemarket market = Sea.withBoat(1, 10, 0);
        market.call(0, 1, 9);
        int[] due = {OUT, OUT, RESTS, RESTS, FREE};
        Due.boatIs("hour 0", market, 0, FREE);
        for (int hour = 1; hour <= due.length; hour++) {
            market.pass(1);
            Due.boatIs("hour " + hour, market, 0, due[hour - 1]);
        }
    }

    private static void fullAtHome() {
        Rescuemarket market = Sea.outFor(2, 1, 4, 9);
        market.pass(3);
        Due.boatIs("an hour from home", market, 0, OUT, NONE, 5, 0);
        market.pass(1);
        Due.boatIs("at home", market, 0, RESTS, NONE, 9, 4);
        Rescuemarket other = Sea.outFor(2, 1, 4, 0);
        other.foretell(2, 2, 3, 3, 1);
        other.pass(1);
        Due.boatIs("turned back", other, 0, OUT, NONE, 3, 2);
        other.pass(1);
        Due.boatIs("at home, turned back", other, 0, RESTS, NONE, 5, 4);
    }

    private static void lentFromTheNextTaskOn() {
        Rescuemarket market = Sea.withBoat(1, 10, 9);
        market.call(0, 2, 9);
        market.pass(1);
        market.lend(0, 1);
        market.pass(1);
        Due.gotAre("lent when it was OUT", market, 10, 0, 0);
        market.call(0, 4, 99);
        market.pass(4);
        Due.gotAre("its next task", market, 20, 10, 0);
        Rescuemarket other = Sea.withBoat(1, 10, 9);
        other.lend(0, 2);
        other.call(0, 4, 99);
        other.pass(2);
        Due.gotAre("lent ahead of its first task", other, 10, 0, 10);
    }

    /** The second task is in hour 5: the boat is there in 2, home in 3, FREE in 5. */
    private static void lentAnew() {
        Rescuemarket market = Sea.withBoat(1, 10, 9);
        market.call(0, 4, 99);
        market.call(0, 8, 99);
        market.lend(0, 1);
        market.pass(4);
        Due.gotAre("the first task", market, 10, 10, 0);
        market.lend(0, 2);
        market.pass(2);
        Due.gotAre("lent anew just before the second", market, 30, 10, 20);
        market.call(0, 2, 99);
        market.pass(4);
        Due.gotAre("it stays lent", market, 35, 10, 25);
    }

    private static void lentBack() {
        Rescuemarket market = Sea.withBoat(1, 10, 9);
        market.call(0, 4, 99);
        market.call(0, 8, 99);
        market.lend(0, 1);
        market.pass(1);
        Due.is("lent back when it is OUT", 1, market.lend(0, 0));
        market.pass(1);
        Due.gotAre("the task that ran stays lent", market, 10, 10, 0);
        market.pass(4);
        Due.gotAre("the next is its own club's, all", market, 50, 10, 0);
    }

    private static void clubBefore() {
        for (int club = 0; club < 3; club++) {
            Rescuemarket market = new Rescuemarket();
            market.boat(club, 0, 1, 1, 0);
            Due.is("its own", club, market.lend(0, club));
            Due.is("its own again", club, market.lend(0, (club + 1) % 3));
            Due.is("the next one", (club + 1) % 3, market.lend(0, (club + 2) % 3));
            Due.is("the one behind", (club + 2) % 3, market.lend(0, (club + 2) % 3));
            Due.is("the same", (club + 2) % 3, market.lend(0, club));
            Due.is("back", club, market.lend(0, club));
        }
    }

    private static void lendWrong() {
        Rescuemarket market = Sea.withBoats(2);
        Due.fails("boat -1", Due.NO_SUCH, () -> market.lend(-1, 0));
        Due.is("boat 0", 0, market.lend(0, 2));
        Due.is("boat 1", 1, market.lend(1, 0));
        Due.fails("boat 2", Due.NO_SUCH, () -> market.lend(2, 0));
        Due.fails("club -1", Due.NO_SUCH, () -> market.lend(1, -1));
        Due.fails("club 3", Due.NO_SUCH, () -> market.lend(1, 3));
        Due.is("boat 0 as before", 2, market.lend(0, 2));
        Due.is("boat 1 as before", 0, market.lend(1, 0));
    }
}
