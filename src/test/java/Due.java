import java.util.Objects;

/** Compares answers with those that are due, and counts. */
final class Due {
    interface Act {
        Object run();
    }

    static final Class<?> NO_SUCH = IndexOutOfBoundsException.class;
    static final Class<?> BAD_ARGUMENT = IllegalArgumentException.class;
    static final Class<?> BAD_STATE = IllegalStateException.class;

    private static int right = 0;
    private static int wrong = 0;

    private Due() {
    }

    static void is(String what, Object want, Object got) {
        if (Objects.equals(want, got)) {
            right++;
        } else {
            wrong++;
            System.out.println(what + " answered " + got + ", due is " + want);
        }
    }

    /** The exception has to be of the very kind, and thrown by the program itself. */
    static void fails(String what, Class<?> kind, Act act) {
        is(what, "throws " + kind.getName(), outcome(act));
    }

    static void fine(String what, Act act) {
        String outcome = outcome(act);
        is(what + " (" + outcome + ")", false, outcome.startsWith("throws"));
    }

    static String outcome(Act act) {
        try {
            return String.valueOf(act.run());
        } catch (RuntimeException e) {
            return "throws " + e.getClass().getName() + (thrownByProgram(e) ? "" : " from the machine or the library");
        }
    }

    private static boolean thrownByProgram(RuntimeException e) {
        StackTraceElement[] trace = e.getStackTrace();
        return trace.length > 0 && trace[0].getClassName().startsWith("Rescuemarket");
    }

    /** A sentence of the document with the test of its own; says so if the sentence does not hold. */
    static void sentence(String words, Runnable test) {
        int rightBefore = right;
        int wrongBefore = wrong;
        test.run();
        if (wrong > wrongBefore) {
            System.out.println("DOES NOT HOLD: " + words);
        } else if (right == rightBefore) {
            wrong++;
            System.out.println("HAS NO TEST: " + words);
        }
    }

    /** State, call, next hour and fuel of a boat, or the first ones of these. */
    static void boatIs(String when, Rescuemarket market, int boat, int... due) {
        for (int what = 0; what < due.length; what++) {
            is(when + ": boat " + boat + ", " + what, due[what], market.ofBoat(boat, what));
        }
    }

    /** State, boat, tasks and reward of a call, or the first ones of these. */
    static void callIs(String when, Rescuemarket market, int call, int... due) {
        for (int what = 0; what < due.length; what++) {
            is(when + ": call " + call + ", " + what, due[what], market.ofCall(call, what));
        }
    }

    /** What each club got, told by both of the methods that tell it. */
    static void gotAre(String when, Rescuemarket market, int... due) {
        for (int club = 0; club < due.length; club++) {
            is(when + ": rewards of " + club, due[club], market.rewards(club));
            is(when + ": rewardsAnew of " + club, due[club], market.rewardsAnew(club));
        }
    }

    /** Acts that have to fail, and leave all that can be seen as it was. */
    static void changesNothing(String what, Rescuemarket market, Class<?> kind, Act... acts) {
        String before = Sight.of(market);
        for (int i = 0; i < acts.length; i++) {
            fails(what + ", act " + i, kind, acts[i]);
        }
        is(what + " changes nothing", before, Sight.of(market));
    }

    static void end() {
        System.out.println(right + " answers as due, " + wrong + " not");
        if (wrong != 0 || right == 0) {
            System.exit(1);
        }
    }
}
