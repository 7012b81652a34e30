/** Markets in the state in which a test begins. */
final class Sea {
    private Sea() {
    }

    static Rescuemarket atHour(int hour) {
        Rescuemarket market = new Rescuemarket();
        pass(market, hour);
        return market;
    }

    /** Lets any number of hours go by, 48 at once at most. */
    static void pass(Rescuemarket market, int hours) {
        for (int left = hours; left > 0; left -= Math.min(left, 48)) {
            market.pass(Math.min(left, 48));
        }
    }

    /** A boat of club 0, at home in cell 0. */
    static Rescuemarket withBoat(int speed, int fuel, int bears) {
        Rescuemarket market = new Rescuemarket();
        market.boat(0, 0, speed, fuel, bears);
        return market;
    }

    /** A boat as before, and a call with time enough; an hour has gone by, so that it is OUT for it. */
    static Rescuemarket outFor(int cell, int speed, int fuel, int bears) {
        Rescuemarket market = withBoat(speed, fuel, bears);
        market.call(cell, 1, 99);
        market.pass(1);
        return market;
    }

    static Rescuemarket withBoats(int count) {
        Rescuemarket market = new Rescuemarket();
        for (int number = 0; number < count; number++) {
            market.boat(number % 3, 0, 1, 100, 9);
        }
        return market;
    }

    static Rescuemarket withCalls(int count) {
        Rescuemarket market = new Rescuemarket();
        for (int number = 0; number < count; number++) {
            market.call(number, 1, 999);
        }
        return market;
    }
}
