/** What at most 200 calls can see of a market, as one text; an object is good for 512. */
final class Sight {
    private Sight() {
    }

    static String of(Rescuemarket market) {
        StringBuilder sight = new StringBuilder();
        for (int boat = 0; boat < 6 && there(market, true, boat); boat++) {
            for (int what = 0; what < 4; what++) {
                sight.append(market.ofBoat(boat, what)).append(' ');
            }
            int user = market.lend(boat, 0);
            market.lend(boat, user);
            sight.append(user).append('\n');
        }
        for (int call = 0; call < 30 && there(market, false, call); call++) {
            for (int what = 0; what < 3; what++) {
                sight.append(market.ofCall(call, what)).append(' ');
            }
            sight.append('\n');
        }
        for (int club = 0; club < 3; club++) {
            sight.append(market.rewards(club)).append(' ').append(market.rewardsAnew(club)).append('\n');
        }
        for (int cell = 0; cell < 48; cell += 5) {
            sight.append(market.premium(cell)).append(' ').append(market.storm(cell, 999)).append('\n');
        }
        int cap = market.cap(0);
        market.cap(cap);
        return sight.append(cap).toString();
    }

    private static boolean there(Rescuemarket market, boolean boat, int number) {
        try {
            int state = boat ? market.ofBoat(number, 0) : market.ofCall(number, 0);
            return state >= 0;
        } catch (IndexOutOfBoundsException e) {
            return false;
        }
    }
}
