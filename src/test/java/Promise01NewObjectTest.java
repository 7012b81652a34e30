/** Promise 1: no boats, no calls, no storms, the hour 0. */
public final class Promise01NewObjectTest {
    public static void main(String[] args) {
        Rescuemarket market = new Rescuemarket();
        Due.fails("ofBoat of none", Due.NO_SUCH, () -> market.ofBoat(0, 0));
        Due.fails("ofCall of none", Due.NO_SUCH, () -> market.ofCall(0, 0));
        Due.fails("lend of none", Due.NO_SUCH, () -> market.lend(0, 0));
        for (int cell = 0; cell < 48; cell++) {
            Due.is("storm at first", 0, market.storm(cell, cell));
            Due.is("storm at last", 0, market.storm(cell, 999));
            Due.is("premium", 0.0f, market.premium(cell));
        }
        for (int club = 0; club < 3; club++) {
            Due.is("rewards", 0, market.rewards(club));
            Due.is("rewardsAnew", 0, market.rewardsAnew(club));
        }
        Due.is("the first hour is one of now", 0, market.storm(0, 0));
        Due.is("cap at first", 200, market.cap(200));
        Due.is("first boat", 0, market.boat(0, 0, 1, 1, 0));
        Due.is("first call", 0, market.call(0, 1, 1));
        Due.is("first hour behind", 1, market.pass(1));
        objectsAreApart();
        Due.end();
    }

    private static void objectsAreApart() {
        Rescuemarket one = new Rescuemarket();
        Rescuemarket other = new Rescuemarket();
        String fresh = Sight.of(other);
        one.boat(0, 0, 3, 100, 9);
        one.call(0, 50, 10);
        one.foretell(0, 47, 0, 999, 4);
        one.cap(1);
        one.pass(5);
        Due.is("another object", fresh, Sight.of(other));
    }
}
