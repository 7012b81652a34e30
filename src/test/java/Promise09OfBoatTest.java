/** Promise 9: ofBoat; how a boat goes on is in the test of promise 7. */
public final class Promise09OfBoatTest {
    public static void main(String[] args) {
        eachOfTwoBoats();
        wrong();
        Due.end();
    }

    private static void eachOfTwoBoats() {
        Rescuemarket market = new Rescuemarket();
        market.boat(0, 0, 1, 11, 5);
        market.boat(1, 47, 2, 22, 5);
        market.call(46, 1, 30);
        int[][] due = {
            {1, 0, Rescuemarket.OUT, 0, 2, 22},
            {2, 0, Rescuemarket.OUT, Rescuemarket.NONE, 3, 20},
            {3, 0, Rescuemarket.RESTS, Rescuemarket.NONE, 5, 22},
            {4, 0, Rescuemarket.RESTS, Rescuemarket.NONE, 5, 22},
            {5, 0, Rescuemarket.FREE, Rescuemarket.NONE, Rescuemarket.NONE, 22}};
        for (int[] row : due) {
            Due.is("the hour", row[0], market.pass(1));
            Due.is("boat 0 stays", row[1], market.ofBoat(0, 0));
            Due.is("boat 0 has its fuel", 11, market.ofBoat(0, 3));
            for (int what = 0; what < 4; what++) {
                Due.is("hour " + row[0] + ", what " + what, row[2 + what], market.ofBoat(1, what));
            }
        }
    }

    private static void wrong() {
        Rescuemarket market = new Rescuemarket();
        market.boat(0, 0, 1, 11, 5);
        Due.changesNothing("no such boat", market, Due.NO_SUCH,
                () -> market.ofBoat(-1, 0),
                () -> market.ofBoat(1, 0),
                () -> market.ofBoat(6, 0),
                () -> market.ofBoat(1, 4),
                () -> market.ofBoat(Integer.MIN_VALUE, -1));
        Due.changesNothing("out of range", market, Due.BAD_ARGUMENT,
                () -> market.ofBoat(0, -1),
                () -> market.ofBoat(0, 4),
                () -> market.ofBoat(0, Integer.MAX_VALUE),
                () -> market.ofBoat(0, Integer.MIN_VALUE));
    }
}
