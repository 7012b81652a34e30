/** Promises 11 and 12: rewards, and the same found anew. */
public final class Promise11And12RewardsTest {
    public static void main(String[] args) {
        wayAndNeed();
        halves();
        capped();
        turnedBackBringsNothing();
        wrong();
        Due.end();
    }

    private static void wayAndNeed() {
        Rescuemarket market = new Rescuemarket();
        market.boat(1, 17, 3, 50, 0);
        market.call(36, 6, 9);
        market.pass(1);
        Due.gotAre("tasked", market, 0, 0, 0);
        market.pass(2);
        Due.gotAre("5 cells, 6 people", market, 0, 80, 0);
        market.pass(10);
        Due.gotAre("paid once", market, 0, 80, 0);
    }

    private static void halves() {
        Rescuemarket market = new Rescuemarket();
        market.boat(0, 0, 1, 50, 0);
        market.boat(2, 0, 1, 50, 0);
        market.boat(1, 0, 1, 50, 0);
        market.lend(0, 1);
        market.lend(1, 0);
        market.call(1, 3, 9);
        market.call(1, 2, 9);
        market.call(1, 5, 9);
        market.pass(1);
        market.lend(0, 0);
        market.lend(1, 2);
        market.lend(2, 0);
        market.pass(1);
        Due.gotAre("25, 20 and 35", market, 12 + 10, 13 + 35, 10);
    }

    private static void capped() {
        Rescuemarket market = new Rescuemarket();
        market.cap(75);
        market.boat(0, 0, 1, 50, 0);
        market.lend(0, 2);
        market.call(1, 50, 9);
        market.pass(2);
        Due.gotAre("the halves of the cap", market, 37, 0, 38);
        market.cap(0);
        Due.gotAre("a cap behind it", market, 37, 0, 38);
        market.cap(1000);
        Due.gotAre("a cap behind it", market, 37, 0, 38);
    }

    private static void turnedBackBringsNothing() {
        Rescuemarket market = new Rescuemarket();
        market.boat(0, 0, 1, 50, 0);
        market.lend(0, 1);
        market.call(2, 4, 20);
        market.pass(1);
        market.foretell(2, 2, 3, 3, 1);
        market.pass(1);
        Due.gotAre("turned back", market, 0, 0, 0);
        market.lend(0, 2);
        market.pass(5);
        Due.gotAre("by the last task", market, 20, 0, 20);
    }

    private static void wrong() {
        Rescuemarket market = new Rescuemarket();
        market.boat(0, 0, 1, 50, 0);
        market.call(2, 4, 20);
        market.pass(3);
        Due.changesNothing("no such club", market, Due.NO_SUCH,
                () -> market.rewards(-1),
                () -> market.rewards(3),
                () -> market.rewards(Integer.MIN_VALUE),
                () -> market.rewardsAnew(-1),
                () -> market.rewardsAnew(3),
                () -> market.rewardsAnew(Integer.MAX_VALUE));
        Due.gotAre("asked often", market, 40, 0, 0);
    }
}
