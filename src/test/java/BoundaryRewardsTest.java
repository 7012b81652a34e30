/** The boundaries of rewards and of their cap. */
public final class BoundaryRewardsTest {
    private static final int DONE = Rescuemarket.DONE;
    private static final int NONE = Rescuemarket.NONE;

    public static void main(String[] args) {
        Due.sentence("rewards with caps, each paid once, found again from the log", BoundaryRewardsTest::onceForTwoTasks);
        Due.sentence("A call that is DONE brings a reward, once", BoundaryRewardsTest::once);
        Due.sentence("10 for each cell of the way there", BoundaryRewardsTest::forTheWay);
        Due.sentence("and 5 for each of its need", BoundaryRewardsTest::forTheNeed);
        Due.sentence("at most the cap", BoundaryRewardsTest::atMostTheCap);
        Due.sentence("200 at first", BoundaryRewardsTest::capAtFirst);
        Due.sentence("to the club of the boat", BoundaryRewardsTest::toItsClub);
        Due.sentence("or, if it was lent when it was tasked", BoundaryRewardsTest::lentWhenItWasTasked);
        Due.sentence("a half, rounded down, to that club, and the rest to the one to which it was lent",
                BoundaryRewardsTest::halfRoundedDown);
        Due.sentence("Sets the cap of rewards of calls that are DONE from now on.", BoundaryRewardsTest::capFromNowOn);
        Due.sentence("cap: 0 to 1000", BoundaryRewardsTest::capRange);
        Due.sentence("at most the cap ... cap: 0 to 1000", BoundaryRewardsTest::noReward);
        Due.sentence("Returns the cap before.", BoundaryRewardsTest::capBefore);
        Due.sentence("Returns what a club got in rewards.", BoundaryRewardsTest::nothingAtFirst);
        Due.sentence("Returns the same, found from the log", BoundaryRewardsTest::allCallsInTheLog);
        Due.sentence("Throws IndexOutOfBoundsException if there is no such club", BoundaryRewardsTest::noSuchClub);
        Due.end();
    }

    /** Tasked, turned back, and tasked anew: the first task brings nothing. */
    private static void onceForTwoTasks() {
        Rescuemarket market = Sea.withBoat(1, 100, 0);
        market.lend(0, 1);
        market.call(1, 1, 99);
        market.pass(1);
        market.foretell(1, 1, 2, 2, 1);
        market.pass(1);
        Due.gotAre("turned back", market, 0, 0, 0);
        market.lend(0, 2);
        market.pass(3);
        Due.callIs("tasked anew", market, 0, Rescuemarket.TASKED, 0, 2, 0);
        Due.gotAre("tasked anew", market, 0, 0, 0);
        market.pass(1);
        Due.callIs("done", market, 0, DONE, 0, 2, 15);
        Due.gotAre("for the second task alone", market, 7, 0, 8);
    }

    private static void once() {
        Rescuemarket market = Sea.outFor(1, 1, 100, 0);
        Due.gotAre("tasked", market, 0, 0, 0);
        market.pass(1);
        for (int hour = 2; hour < 60; hour++) {
            Due.gotAre("hour " + hour, market, 15, 0, 0);
            market.pass(1);
        }
        Due.callIs("at the end", market, 0, DONE, 0, 1, 15);
    }

    private static void forTheWay() {
        int[] cells = {0, 1, 8, 9, 47};
        int[] due = {5, 15, 15, 25, 125};
        for (int i = 0; i < cells.length; i++) {
            Rescuemarket market = Sea.outFor(cells[i], 3, 100, 0);
            market.pass(4);
            Due.gotAre("for cell " + cells[i], market, due[i], 0, 0);
            Due.callIs("for cell " + cells[i], market, 0, DONE, 0, 1, due[i]);
        }
    }

    private static void forTheNeed() {
        for (int need : new int[] {1, 2, 39, 40}) {
            Due.is("need " + need, 5 * need, rewardOf(0, need, 200));
        }
        Due.is("the greatest reward that there is", 370, rewardOf(47, 50, 1000));
    }

    /** The reward of a call that a boat of speed 3 does from cell 0. */
    private static int rewardOf(int cell, int need, int cap) {
        Rescuemarket market = Sea.withBoat(3, 100, 0);
        market.cap(cap);
        market.call(cell, need, 99);
        market.pass(5);
        Due.gotAre("cell " + cell + ", need " + need + ", cap " + cap, market, market.ofCall(0, 3), 0, 0);
        return market.ofCall(0, 3);
    }

    private static void atMostTheCap() {
        Due.is("one under the cap", 65, rewardOf(3, 7, 66));
        Due.is("just the cap", 65, rewardOf(3, 7, 65));
        Due.is("one over the cap", 64, rewardOf(3, 7, 64));
        Due.is("one under the greatest reward", 369, rewardOf(47, 50, 369));
        Due.is("a cap of 1", 1, rewardOf(3, 7, 1));
        Due.is("the greatest cap", 65, rewardOf(3, 7, 1000));
    }

    private static void capAtFirst() {
        int[] needs = {39, 40, 41, 50};
        int[] due = {195, 200, 200, 200};
        for (int i = 0; i < needs.length; i++) {
            Rescuemarket market = Sea.withBoat(1, 100, 0);
            market.call(0, needs[i], 99);
            market.pass(2);
            Due.callIs("need " + needs[i], market, 0, DONE, 0, 1, due[i]);
        }
        Due.is("asked", 200, new Rescuemarket().cap(200));
    }

    private static void toItsClub() {
        for (int club = 0; club < 3; club++) {
            Rescuemarket market = new Rescuemarket();
            market.boat(club, 0, 1, 100, 0);
            market.call(1, 1, 99);
            market.pass(2);
            Due.gotAre("club " + club, market, club == 0 ? 15 : 0, club == 1 ? 15 : 0, club == 2 ? 15 : 0);
        }
    }

    private static void lentWhenItWasTasked() {
        Rescuemarket market = Sea.withBoat(1, 100, 0);
        market.lend(0, 2);
        market.call(1, 1, 99);
        market.pass(1);
        market.lend(0, 0);
        market.pass(1);
        Due.gotAre("lent back behind its task", market, 7, 0, 8);
        Rescuemarket other = Sea.withBoat(1, 100, 0);
        other.call(1, 1, 99);
        other.pass(1);
        other.lend(0, 2);
        other.pass(1);
        Due.gotAre("lent behind its task", other, 15, 0, 0);
        Rescuemarket own = Sea.withBoat(1, 100, 0);
        own.lend(0, 0);
        own.call(1, 1, 99);
        own.pass(2);
        Due.gotAre("lent to its own club", own, 15, 0, 0);
    }

    private static void halfRoundedDown() {
        for (int reward : new int[] {0, 1, 2, 3, 64, 65}) {
            for (int user = 1; user < 3; user++) {
                Rescuemarket market = Sea.withBoat(3, 100, 0);
                market.cap(reward);
                market.lend(0, user);
                market.call(3, 7, 99);
                market.pass(2);
                int rest = reward - reward / 2;
                Due.gotAre("of " + reward, market, reward / 2, user == 1 ? rest : 0, user == 2 ? rest : 0);
                Due.callIs("of " + reward, market, 0, DONE, 0, 1, reward);
            }
        }
    }

    private static void capFromNowOn() {
        Rescuemarket market = Sea.withBoat(1, 100, 0);
        market.call(0, 50, 99);
        market.call(0, 50, 99);
        market.cap(50);
        market.pass(1);
        market.cap(60);
        market.pass(1);
        Due.gotAre("the cap when it is DONE, not when tasked", market, 60, 0, 0);
        market.cap(10);
        Due.gotAre("a less one later", market, 60, 0, 0);
        market.cap(1000);
        Due.gotAre("a greater one later", market, 60, 0, 0);
        Due.callIs("a greater one later", market, 0, DONE, 0, 1, 60);
        market.cap(30);
        market.pass(4);
        Due.callIs("the second", market, 1, DONE, 0, 1, 30);
        Due.gotAre("each with its own cap", market, 90, 0, 0);
    }

    private static void capRange() {
        Rescuemarket market = new Rescuemarket();
        Due.fails("-1", Due.BAD_ARGUMENT, () -> market.cap(-1));
        Due.fine("0", () -> market.cap(0));
        Due.fine("1000", () -> market.cap(1000));
        Due.fails("1001", Due.BAD_ARGUMENT, () -> market.cap(1001));
    }

    private static void noReward() {
        Rescuemarket market = Sea.withBoats(2);
        market.call(1, 7, 99);
        market.call(2, 7, 99);
        market.cap(0);
        market.pass(3);
        Due.callIs("a cap of 0", market, 0, DONE, 0, 1, 0);
        Due.callIs("a cap of 0", market, 1, DONE, 1, 1, 0);
        Due.gotAre("a cap of 0", market, 0, 0, 0);
        Due.is("it is 0 still", 0, market.cap(0));
    }

    private static void capBefore() {
        Rescuemarket market = new Rescuemarket();
        Due.is("at first", 200, market.cap(0));
        Due.is("the least", 0, market.cap(1000));
        Due.is("the greatest", 1000, market.cap(1000));
        Due.fails("refused", Due.BAD_ARGUMENT, () -> market.cap(1001));
        Due.is("as before", 1000, market.cap(200));
    }

    private static void nothingAtFirst() {
        Rescuemarket market = Sea.withBoats(6);
        Due.gotAre("no calls", market, 0, 0, 0);
        market.call(7, 50, 1);
        market.pass(2);
        Due.callIs("LOST", market, 0, Rescuemarket.LOST, NONE, 0, 0);
        Due.gotAre("one that is LOST", market, 0, 0, 0);
    }

    /** Thirty calls, each DONE with a cap of its own; the boat is lent to each club in turn. */
    private static void allCallsInTheLog() {
        Rescuemarket market = Sea.withBoat(1, 100, 0);
        int[] due = new int[3];
        for (int number = 0; number < 30; number++) {
            int user = number % 3;
            market.cap(2 * number + 1);
            market.lend(0, user);
            market.call(5, 50, 999);
            market.pass(20);
            due[0] += user == 0 ? 2 * number + 1 : number;
            due[user] += user == 0 ? 0 : number + 1;
            Due.gotAre("call " + number, market, due);
        }
    }

    private static void noSuchClub() {
        Rescuemarket market = Sea.outFor(1, 1, 100, 0);
        market.pass(1);
        for (int club : new int[] {-1, 3}) {
            Due.fails("rewards of " + club, Due.NO_SUCH, () -> market.rewards(club));
            Due.fails("rewardsAnew of " + club, Due.NO_SUCH, () -> market.rewardsAnew(club));
        }
        Due.gotAre("the clubs that there are", market, 15, 0, 0);
    }
}
