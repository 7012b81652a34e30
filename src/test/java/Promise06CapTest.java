/** Promise 6: cap. */
public final class Promise06CapTest {
    public static void main(String[] args) {
        answers();
        fromNowOn();
        wrong();
        Due.end();
    }

    private static void answers() {
        Rescuemarket market = new Rescuemarket();
        Due.is("at first", 200, market.cap(0));
        Due.is("the least", 0, market.cap(1000));
        Due.is("the most", 1000, market.cap(1000));
        Due.is("the same anew", 1000, market.cap(5));
    }

    private static void fromNowOn() {
        Rescuemarket market = new Rescuemarket();
        for (int number = 0; number < 4; number++) {
            market.boat(0, number, 1, 100, 0);
        }
        market.call(0, 50, 9);
        market.call(1, 50, 9);
        market.pass(1);
        market.cap(240);
        market.pass(1);
        Due.is("the cap when it is DONE, not when tasked", 240, market.ofCall(0, 3));
        Due.is("for each", 480, market.rewards(0));
        market.cap(0);
        Due.is("what is paid stays", 480, market.rewards(0));
        Due.is("also found anew", 480, market.rewardsAnew(0));
        market.call(2, 50, 9);
        market.pass(2);
        Due.is("DONE for nothing", Rescuemarket.DONE, market.ofCall(2, 0));
        Due.is("nothing", 0, market.ofCall(2, 3));
        market.cap(1000);
        market.call(3, 50, 9);
        market.pass(2);
        Due.is("under the cap", 250, market.ofCall(3, 3));
        Due.is("all", 730, market.rewards(0));
        Due.is("all anew", 730, market.rewardsAnew(0));
    }

    private static void wrong() {
        Rescuemarket market = new Rescuemarket();
        market.cap(77);
        Due.changesNothing("out of range", market, Due.BAD_ARGUMENT,
                () -> market.cap(-1),
                () -> market.cap(1001),
                () -> market.cap(Integer.MIN_VALUE),
                () -> market.cap(Integer.MAX_VALUE));
        Due.is("as before", 77, market.cap(77));
    }
}
