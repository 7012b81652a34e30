/** Promise 2: boat. */
public final class Promise02BoatTest {
    public static void main(String[] args) {
        sixBoats();
        edges();
        wrong();
        order();
        ownClubAtFirst();
        Due.end();
    }

    private static void sixBoats() {
        Rescuemarket market = new Rescuemarket();
        for (int number = 0; number < 6; number++) {
            Due.is("boat", number, market.boat(number % 3, number * 9, 1 + number % 3, 10 + number, number));
            Due.is("it is FREE", Rescuemarket.FREE, market.ofBoat(number, 0));
            Due.is("for no call", Rescuemarket.NONE, market.ofBoat(number, 1));
            Due.is("nothing is next", Rescuemarket.NONE, market.ofBoat(number, 2));
            Due.is("its fuel", 10 + number, market.ofBoat(number, 3));
        }
        Due.changesNothing("a seventh", market, Due.BAD_STATE, () -> market.boat(0, 0, 1, 1, 0));
        Due.fails("there is no seventh", Due.NO_SUCH, () -> market.ofBoat(6, 0));
    }

    private static void edges() {
        Rescuemarket market = new Rescuemarket();
        Due.is("all least", 0, market.boat(0, 0, 1, 1, 0));
        Due.is("all most", 1, market.boat(2, 47, 3, 100, 9));
        Due.is("the least fuel", 1, market.ofBoat(0, 3));
        Due.is("the most fuel", 100, market.ofBoat(1, 3));
    }

    private static void wrong() {
        Rescuemarket market = new Rescuemarket();
        market.boat(1, 5, 2, 50, 5);
        Due.changesNothing("no such club or cell", market, Due.NO_SUCH,
                () -> market.boat(-1, 0, 1, 1, 0),
                () -> market.boat(3, 0, 1, 1, 0),
                () -> market.boat(0, -1, 1, 1, 0),
                () -> market.boat(0, 48, 1, 1, 0),
                () -> market.boat(Integer.MAX_VALUE, Integer.MIN_VALUE, 1, 1, 0));
        Due.changesNothing("out of range", market, Due.BAD_ARGUMENT,
                () -> market.boat(0, 0, 0, 1, 0),
                () -> market.boat(0, 0, 4, 1, 0),
                () -> market.boat(0, 0, 1, 0, 0),
                () -> market.boat(0, 0, 1, 101, 0),
                () -> market.boat(0, 0, 1, 1, -1),
                () -> market.boat(0, 0, 1, 1, 10),
                () -> market.boat(0, 0, Integer.MIN_VALUE, Integer.MAX_VALUE, Integer.MIN_VALUE));
        Due.is("the next one's number", 1, market.boat(0, 0, 1, 1, 0));
    }

    private static void order() {
        Rescuemarket market = new Rescuemarket();
        for (int number = 0; number < 6; number++) {
            market.boat(0, 0, 1, 1, 0);
        }
        Due.changesNothing("the index is first", market, Due.NO_SUCH,
                () -> market.boat(3, 0, 0, 0, 10),
                () -> market.boat(0, 48, 0, 0, 10),
                () -> market.boat(0, 48, 1, 1, 0));
        Due.changesNothing("the range is second", market, Due.BAD_ARGUMENT,
                () -> market.boat(0, 0, 0, 1, 0),
                () -> market.boat(0, 0, 1, 0, 0),
                () -> market.boat(0, 0, 1, 1, 10));
    }

    private static void ownClubAtFirst() {
        Rescuemarket market = new Rescuemarket();
        for (int club = 0; club < 3; club++) {
            market.boat(club, 0, 1, 1, 0);
            Due.is("not lent at first", club, market.lend(club, club));
        }
    }
}
