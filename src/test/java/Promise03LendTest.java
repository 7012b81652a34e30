/** Promise 3: lend. */
public final class Promise03LendTest {
    public static void main(String[] args) {
        answers();
        fromTheNextTaskOn();
        backToItsOwn();
        wrong();
        Due.end();
    }

    private static void answers() {
        Rescuemarket market = new Rescuemarket();
        market.boat(1, 0, 1, 10, 0);
        Due.is("its own before", 1, market.lend(0, 2));
        Due.is("2 before", 2, market.lend(0, 2));
        Due.is("2 before", 2, market.lend(0, 0));
        Due.is("0 before", 0, market.lend(0, 1));
        Due.is("its own again", 1, market.lend(0, 1));
    }

    private static void fromTheNextTaskOn() {
        Rescuemarket market = new Rescuemarket();
        market.boat(0, 0, 1, 10, 0);
        market.call(2, 1, 9);
        market.call(1, 1, 30);
        market.lend(0, 1);
        market.pass(1);
        market.lend(0, 2);
        market.pass(2);
        Due.is("the odd half is the user's", 13, market.rewards(1));
        Due.is("the owner's half", 12, market.rewards(0));
        Due.is("lent behind the task", 0, market.rewards(2));
        market.pass(10);
        Due.is("the next task's user", 8, market.rewards(2));
        Due.is("the next task's owner", 19, market.rewards(0));
        Due.is("nothing more", 13, market.rewards(1));
    }

    private static void backToItsOwn() {
        Rescuemarket market = new Rescuemarket();
        market.boat(2, 0, 1, 10, 0);
        market.call(1, 2, 9);
        market.lend(0, 0);
        market.lend(0, 2);
        market.pass(2);
        Due.is("all is its own", 20, market.rewards(2));
        Due.is("nothing is lent", 0, market.rewards(0));
    }

    private static void wrong() {
        Rescuemarket market = new Rescuemarket();
        market.boat(1, 0, 1, 10, 0);
        Due.changesNothing("no such boat or club", market, Due.NO_SUCH,
                () -> market.lend(-1, 0),
                () -> market.lend(1, 0),
                () -> market.lend(Integer.MAX_VALUE, 0),
                () -> market.lend(0, -1),
                () -> market.lend(0, 3),
                () -> market.lend(0, Integer.MIN_VALUE));
    }
}
