/** Each promise's "Throws" sentences, for all that the edges of its arguments can be together. */
public final class DocumentThrowsTest {
    private static final int MIN = Integer.MIN_VALUE;
    private static final int MAX = Integer.MAX_VALUE;
    private static final int[] CLUBS = {MIN, -1, 0, 2, 3, MAX};
    private static final int[] CELLS = {MIN, -1, 0, 47, 48, MAX};

    public static void main(String[] args) {
        Due.sentence("Throws IndexOutOfBoundsException if there is no such club or cell ... "
                + "Throws IllegalArgumentException if speed, fuel or bears is out of range ... "
                + "Throws IllegalStateException if there are 6", DocumentThrowsTest::boat);
        Due.sentence("Throws IndexOutOfBoundsException if there is no such boat or club", DocumentThrowsTest::lend);
        Due.sentence("Throws IndexOutOfBoundsException if there is no such cell, of either ... "
                + "Throws IllegalArgumentException if to is ahead of from, or first, last or storm is out of range",
                DocumentThrowsTest::foretell);
        Due.sentence("Throws IndexOutOfBoundsException if there is no such cell ... "
                + "Throws IllegalArgumentException if need or last is out of range ... "
                + "Throws IllegalStateException if there are 30", DocumentThrowsTest::call);
        Due.sentence("Throws IllegalArgumentException if cap is out of range", DocumentThrowsTest::cap);
        Due.sentence("Throws IllegalArgumentException if hours is out of range ... "
                + "Throws IllegalStateException if it would be above 999", DocumentThrowsTest::pass);
        Due.sentence("Throws IndexOutOfBoundsException if there is no such cell ... "
                + "Throws IllegalArgumentException if hour is out of range", DocumentThrowsTest::storm);
        Due.sentence("Throws IndexOutOfBoundsException if there is no such boat ... "
                + "Throws IllegalArgumentException if what is out of range", DocumentThrowsTest::ofBoat);
        Due.sentence("Throws IndexOutOfBoundsException if there is no such call ... "
                + "Throws IllegalArgumentException if what is out of range", DocumentThrowsTest::ofCall);
        Due.sentence("Throws IndexOutOfBoundsException if there is no such club", DocumentThrowsTest::clubs);
        Due.sentence("Throws IndexOutOfBoundsException if there is no such cell", DocumentThrowsTest::premium);
        Due.end();
    }

    private static boolean out(int value, int least, int most) {
        return value < least || value > most;
    }

    /** The exception that is documented first, of those that apply; without any the act has to answer. */
    private static void check(String what, boolean noSuch, boolean badArgument, boolean badState, Due.Act act) {
        if (noSuch) {
            Due.fails(what, Due.NO_SUCH, act);
        } else if (badArgument) {
            Due.fails(what, Due.BAD_ARGUMENT, act);
        } else if (badState) {
            Due.fails(what, Due.BAD_STATE, act);
        } else {
            Due.fine(what, act);
        }
    }

    private static void boat() {
        for (int club : CLUBS) {
            for (int home : CELLS) {
                for (int speed : new int[] {MIN, 0, 1, 3, 4, MAX}) {
                    for (int fuel : new int[] {MIN, 0, 1, 100, 101, MAX}) {
                        boatsThatBear(club, home, speed, fuel);
                    }
                }
            }
        }
    }

    private static void boatsThatBear(int club, int home, int speed, int fuel) {
        boolean noSuch = out(club, 0, 2) || out(home, 0, 47);
        for (int bears : new int[] {MIN, -1, 0, 9, 10, MAX}) {
            boolean bad = out(speed, 1, 3) || out(fuel, 1, 100) || out(bears, 0, 9);
            String what = "boat " + club + " " + home + " " + speed + " " + fuel + " " + bears;
            Rescuemarket five = Sea.withBoats(5);
            check(what + ", the sixth", noSuch, bad, false, () -> five.boat(club, home, speed, fuel, bears));
            Rescuemarket six = Sea.withBoats(6);
            check(what + ", the seventh", noSuch, bad, true, () -> six.boat(club, home, speed, fuel, bears));
        }
    }

    private static void lend() {
        for (int boats = 0; boats <= 6; boats++) {
            Rescuemarket market = Sea.withBoats(boats);
            for (int boat : new int[] {MIN, -1, 0, boats - 1, boats, 6, MAX}) {
                for (int club : CLUBS) {
                    boolean noSuch = out(boat, 0, boats - 1) || out(club, 0, 2);
                    check("lend " + boat + " " + club, noSuch, false, false, () -> market.lend(boat, club));
                }
            }
        }
    }

    private static void foretell() {
        for (int from : new int[] {MIN, -1, 0, 9, 47, 48, MAX}) {
            for (int to : new int[] {MIN, -1, 0, 8, 9, 10, 16, 17, 47, 48, MAX}) {
                for (int first : new int[] {MIN, 6, 7, 999, 1000, MAX}) {
                    for (int last : new int[] {MIN, 6, 7, 998, 999, 1000, MAX}) {
                        storms(from, to, first, last);
                    }
                }
            }
        }
    }

    private static void storms(int from, int to, int first, int last) {
        Rescuemarket market = Sea.atHour(7);
        boolean noSuch = out(from, 0, 47) || out(to, 0, 47);
        boolean ahead = to % 8 < from % 8 || to / 8 < from / 8;
        for (int storm : new int[] {MIN, -1, 0, 9, 10, MAX}) {
            boolean bad = ahead || out(first, 7, 999) || out(last, first, 999) || out(storm, 0, 9);
            String what = "foretell " + from + " " + to + " " + first + " " + last + " " + storm;
            check(what, noSuch, bad, false, () -> market.foretell(from, to, first, last, storm));
        }
    }

    private static void call() {
        for (int cell : CELLS) {
            for (int need : new int[] {MIN, 0, 1, 50, 51, MAX}) {
                for (int last : new int[] {MIN, 0, 2, 3, 4, 999, 1000, MAX}) {
                    boolean noSuch = out(cell, 0, 47);
                    boolean bad = out(need, 1, 50) || out(last, 4, 999);
                    String what = "call " + cell + " " + need + " " + last;
                    Rescuemarket market = Sea.withCalls(29);
                    market.pass(3);
                    check(what + ", the 30th", noSuch, bad, false, () -> market.call(cell, need, last));
                    Rescuemarket full = Sea.withCalls(30);
                    full.pass(3);
                    check(what + ", the 31st", noSuch, bad, true, () -> full.call(cell, need, last));
                }
            }
        }
    }

    private static void cap() {
        Rescuemarket market = new Rescuemarket();
        for (int cap : new int[] {MIN, -1, 0, 1, 999, 1000, 1001, MAX}) {
            check("cap " + cap, false, out(cap, 0, 1000), false, () -> market.cap(cap));
        }
    }

    private static void pass() {
        for (int now : new int[] {0, 950, 951, 952, 997, 998, 999}) {
            for (int hours : new int[] {MIN, -1, 0, 1, 2, 47, 48, 49, MAX - 999, MAX}) {
                Rescuemarket market = Sea.atHour(now);
                boolean bad = out(hours, 1, 48);
                check("pass " + hours + " at " + now, false, bad, now + hours > 999, () -> market.pass(hours));
            }
        }
    }

    private static void storm() {
        for (int now : new int[] {0, 5, 998, 999}) {
            Rescuemarket market = Sea.atHour(now);
            for (int cell : CELLS) {
                for (int hour : new int[] {MIN, -1, 0, now - 1, now, now + 1, 999, 1000, MAX}) {
                    boolean bad = out(hour, now, 999);
                    check("storm " + cell + " " + hour + " at " + now, out(cell, 0, 47), bad, false,
                            () -> market.storm(cell, hour));
                }
            }
        }
    }

    private static void ofBoat() {
        for (int boats = 0; boats <= 6; boats++) {
            Rescuemarket market = Sea.withBoats(boats);
            for (int boat : new int[] {MIN, -1, 0, boats - 1, boats, 6, MAX}) {
                for (int what : new int[] {MIN, -1, 0, 1, 2, 3, 4, MAX}) {
                    check("ofBoat " + boat + " " + what, out(boat, 0, boats - 1), out(what, 0, 3), false,
                            () -> market.ofBoat(boat, what));
                }
            }
        }
    }

    private static void ofCall() {
        for (int calls : new int[] {0, 1, 2, 29, 30}) {
            Rescuemarket market = Sea.withCalls(calls);
            for (int call : new int[] {MIN, -1, 0, calls - 1, calls, 30, MAX}) {
                for (int what : new int[] {MIN, -1, 0, 1, 2, 3, 4, MAX}) {
                    check("ofCall " + call + " " + what, out(call, 0, calls - 1), out(what, 0, 3), false,
                            () -> market.ofCall(call, what));
                }
            }
        }
    }

    private static void clubs() {
        Rescuemarket market = new Rescuemarket();
        for (int club : CLUBS) {
            check("rewards " + club, out(club, 0, 2), false, false, () -> market.rewards(club));
            check("rewardsAnew " + club, out(club, 0, 2), false, false, () -> market.rewardsAnew(club));
        }
    }

    private static void premium() {
        Rescuemarket market = new Rescuemarket();
        for (int cell : CELLS) {
            check("premium " + cell, out(cell, 0, 47), false, false, () -> market.premium(cell));
        }
    }
}
