/** Promise 10: ofCall; how a call goes on is in the test of promise 7. */
public final class Promise10OfCallTest {
    public static void main(String[] args) {
        eachOfThreeCalls();
        taskedTwice();
        wrong();
        Due.end();
    }

    private static void eachOfThreeCalls() {
        Rescuemarket market = new Rescuemarket();
        market.boat(0, 0, 1, 1, 0);
        market.boat(2, 8, 3, 50, 0);
        market.call(47, 1, 1);
        market.call(11, 9, 20);
        market.call(0, 50, 20);
        Due.callIs("asked", market, 1, Rescuemarket.OPEN, Rescuemarket.NONE, 0, 0);
        market.pass(1);
        Due.callIs("asked", market, 0, Rescuemarket.OPEN, Rescuemarket.NONE, 0, 0);
        Due.callIs("asked", market, 1, Rescuemarket.TASKED, 1, 1, 0);
        Due.callIs("asked", market, 2, Rescuemarket.TASKED, 0, 1, 0);
        market.pass(1);
        Due.callIs("asked", market, 0, Rescuemarket.LOST, Rescuemarket.NONE, 0, 0);
        Due.callIs("asked", market, 1, Rescuemarket.DONE, 1, 1, 75);
        Due.callIs("asked", market, 2, Rescuemarket.DONE, 0, 1, 200);
    }

    private static void taskedTwice() {
        Rescuemarket market = new Rescuemarket();
        market.boat(0, 0, 1, 50, 0);
        market.call(3, 1, 4);
        market.pass(1);
        market.foretell(3, 3, 4, 4, 1);
        market.pass(1);
        Due.callIs("asked", market, 0, Rescuemarket.OPEN, 0, 1, 0);
        market.pass(3);
        Due.callIs("asked", market, 0, Rescuemarket.LOST, 0, 1, 0);
    }

    private static void wrong() {
        Rescuemarket market = new Rescuemarket();
        market.call(3, 1, 4);
        Due.changesNothing("no such call", market, Due.NO_SUCH,
                () -> market.ofCall(-1, 0),
                () -> market.ofCall(1, 0),
                () -> market.ofCall(30, 0),
                () -> market.ofCall(1, 4),
                () -> market.ofCall(Integer.MAX_VALUE, -1));
        Due.changesNothing("out of range", market, Due.BAD_ARGUMENT,
                () -> market.ofCall(0, -1),
                () -> market.ofCall(0, 4),
                () -> market.ofCall(0, Integer.MAX_VALUE),
                () -> market.ofCall(0, Integer.MIN_VALUE));
    }
}
