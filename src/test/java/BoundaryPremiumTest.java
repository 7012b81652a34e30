/** The boundaries of premiums. */
public final class BoundaryPremiumTest {
    public static void main(String[] args) {
        Due.sentence("1.5 for each of the greatest storm foretold there", BoundaryPremiumTest::forEachStorm);
        Due.sentence("the greatest storm", BoundaryPremiumTest::theGreatest);
        Due.sentence("for the hour of now", BoundaryPremiumTest::hourOfNow);
        Due.sentence("and the 23 behind it", BoundaryPremiumTest::twentyThreeBehind);
        Due.sentence("and the 23 behind it ... Hours are 0 to 999.", BoundaryPremiumTest::lastHours);
        Due.sentence("foretold there", BoundaryPremiumTest::otherCells);
        Due.sentence("and 0.25 for each call that was ever there", BoundaryPremiumTest::forEachCall);
        Due.sentence("that was ever there", BoundaryPremiumTest::ever);
        Due.sentence("the latter added to the former", BoundaryPremiumTest::both);
        Due.sentence("cell: 0 to 47", BoundaryPremiumTest::cells);
        Due.end();
    }

    private static void forEachStorm() {
        Rescuemarket market = new Rescuemarket();
        float[] due = {0f, 1.5f, 3f, 4.5f, 6f, 7.5f, 9f, 10.5f, 12f, 13.5f};
        for (int storm = 0; storm <= 9; storm++) {
            market.foretell(20, 20, 0, 999, storm);
            Due.is("storm " + storm, due[storm], market.premium(20));
        }
    }

    private static void theGreatest() {
        Rescuemarket market = new Rescuemarket();
        market.foretell(20, 20, 0, 23, 2);
        market.foretell(20, 20, 0, 0, 4);
        Due.is("the first one", 6f, market.premium(20));
        market.foretell(20, 20, 23, 23, 5);
        Due.is("the last one", 7.5f, market.premium(20));
        market.foretell(20, 20, 11, 11, 6);
        Due.is("one between", 9f, market.premium(20));
        market.foretell(20, 20, 11, 11, 0);
        Due.is("foretold anew", 7.5f, market.premium(20));
    }

    private static void hourOfNow() {
        for (int hour : new int[] {0, 1, 15, 16, 17, 500, 999}) {
            Rescuemarket market = Sea.atHour(hour);
            market.foretell(20, 20, hour, hour, 3);
            Due.is("hour " + hour, 4.5f, market.premium(20));
            if (hour < 999) {
                market.pass(1);
                Due.is("gone by, hour " + hour, 0f, market.premium(20));
            }
        }
    }

    private static void twentyThreeBehind() {
        for (int now : new int[] {0, 1, 8, 9, 24, 500, 975}) {
            Rescuemarket market = Sea.atHour(now);
            market.foretell(20, 20, now + 24, 999, 9);
            Due.is("the 24th behind " + now, 0f, market.premium(20));
            market.foretell(20, 20, now + 23, now + 23, 3);
            Due.is("the 23rd behind " + now, 4.5f, market.premium(20));
            market.pass(1);
            Due.is("an hour later", 13.5f, market.premium(20));
        }
    }

    private static void lastHours() {
        for (int now = 970; now <= 999; now++) {
            Rescuemarket market = Sea.atHour(now);
            market.foretell(20, 21, 999, 999, 7);
            float due = now >= 976 ? 10.5f : 0f;
            Due.is("hour " + now, due, market.premium(20));
            Due.is("the cell behind, hour " + now, due, market.premium(21));
            Due.is("a cell without, hour " + now, 0f, market.premium(19));
        }
        Rescuemarket last = new Rescuemarket();
        last.foretell(0, 47, 0, 998, 9);
        Sea.pass(last, 999);
        for (int cell = 0; cell < 48; cell++) {
            Due.is("not the first hours once more, cell " + cell, 0f, last.premium(cell));
        }
    }

    private static void otherCells() {
        Rescuemarket market = new Rescuemarket();
        market.foretell(20, 20, 0, 999, 9);
        market.call(20, 1, 9);
        for (int cell = 0; cell < 48; cell++) {
            Due.is("cell " + cell, cell == 20 ? 13.75f : 0f, market.premium(cell));
        }
    }

    private static void forEachCall() {
        Rescuemarket market = new Rescuemarket();
        Due.is("none", 0f, market.premium(20));
        for (int number = 0; number < 30; number++) {
            market.call(20, 1, 999);
            Due.is("call " + number, 0.25f * (number + 1), market.premium(20));
        }
        Due.fails("one more is refused", Due.BAD_STATE, () -> market.call(20, 1, 999));
        Due.is("and does not count", 7.5f, market.premium(20));
    }

    private static void ever() {
        Rescuemarket market = Sea.withBoat(1, 100, 0);
        market.call(1, 1, 9);
        market.call(1, 1, 2);
        market.call(1, 1, 999);
        market.pass(1);
        Due.is("one TASKED, two OPEN", 0.75f, market.premium(1));
        market.pass(2);
        Due.callIs("one", market, 0, Rescuemarket.DONE);
        Due.callIs("one", market, 1, Rescuemarket.LOST);
        Due.callIs("one", market, 2, Rescuemarket.OPEN);
        Due.is("one DONE, one LOST, one OPEN", 0.75f, market.premium(1));
        market.pass(48);
        Due.is("long behind", 0.75f, market.premium(1));
    }

    private static void both() {
        Rescuemarket market = new Rescuemarket();
        market.foretell(20, 20, 0, 999, 9);
        for (int number = 0; number < 30; number++) {
            market.call(20, 1, 999);
        }
        Due.is("the greatest premium that there is", 21f, market.premium(20));
        market.foretell(20, 20, 0, 999, 1);
        Due.is("a storm of 1", 9f, market.premium(20));
    }

    private static void cells() {
        Rescuemarket market = new Rescuemarket();
        market.foretell(0, 0, 0, 0, 1);
        market.foretell(47, 47, 0, 0, 2);
        Due.fails("-1", Due.NO_SUCH, () -> market.premium(-1));
        Due.is("0", 1.5f, market.premium(0));
        Due.is("47", 3f, market.premium(47));
        Due.fails("48", Due.NO_SUCH, () -> market.premium(48));
    }
}
