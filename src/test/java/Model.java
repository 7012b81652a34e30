import java.util.ArrayList;
import java.util.Arrays;
import java.util.List;

/** The document once more, plainly, with rows of numbers and a log of all that happens. */
final class Model {
    private static final int CLUB = 0, HOME = 1, SPEED = 2, TANK = 3, BEARS = 4, LENT = 5, STATE = 6;
    private static final int FOR = 7, NEXT = 8, FUEL = 9, SINCE = 10, TASK_LENT = 11;
    private static final int CELL = 0, NEED = 1, UNTIL = 2, HOW = 3, BOAT = 4, TASKS = 5, REWARD = 6;

    private final int[][] foretold = new int[48][1000];
    private final List<int[]> boats = new ArrayList<>();
    private final List<int[]> calls = new ArrayList<>();
    private final int[] got = new int[3];
    private final List<int[]> doneLog = new ArrayList<>();
    private int hour = 0;
    private int cap = 200;

    /** The answer, or the exception's name. */
    String answer(String name, int... a) {
        switch (name) {
            case "boat": return boat(a[0], a[1], a[2], a[3], a[4]);
            case "lend": return lend(a[0], a[1]);
            case "foretell": return foretell(a[0], a[1], a[2], a[3], a[4]);
            case "call": return call(a[0], a[1], a[2]);
            case "cap": return cap(a[0]);
            case "pass": return pass(a[0]);
            case "storm": return storm(a[0], a[1]);
            case "ofBoat": return ofBoat(a[0], a[1]);
            case "ofCall": return ofCall(a[0], a[1]);
            case "rewards": return not(a[0], 3) ? index() : "" + got[a[0]];
            case "rewardsAnew": return not(a[0], 3) ? index() : "" + anew(a[0]);
            default: return not(a[0], 48) ? index() : premium(a[0]);
        }
    }

    private static boolean not(int number, int count) {
        return number < 0 || number >= count;
    }

    private static boolean out(int value, int least, int most) {
        return value < least || value > most;
    }

    private static String index() {
        return "throws java.lang.IndexOutOfBoundsException";
    }

    private static String argument() {
        return "throws java.lang.IllegalArgumentException";
    }

    private static String state() {
        return "throws java.lang.IllegalStateException";
    }

    private String boat(int club, int home, int speed, int fuel, int bears) {
        if (not(club, 3) || not(home, 48)) return index();
        if (out(speed, 1, 3) || out(fuel, 1, 100) || out(bears, 0, 9)) return argument();
        if (boats.size() == 6) return state();
        boats.add(new int[] {club, home, speed, fuel, bears, club, 0, -1, -1, fuel, -1, club});
        return "" + (boats.size() - 1);
    }

    private String lend(int boat, int club) {
        if (not(boat, boats.size()) || not(club, 3)) return index();
        String before = "" + boats.get(boat)[LENT];
        boats.get(boat)[LENT] = club;
        return before;
    }

    private String foretell(int from, int to, int first, int last, int storm) {
        if (not(from, 48) || not(to, 48)) return index();
        if (to % 8 < from % 8 || to / 8 < from / 8) return argument();
        if (out(first, hour, 999) || out(last, first, 999) || out(storm, 0, 9)) return argument();
        int cells = 0;
        for (int cell = 0; cell < 48; cell++) {
            boolean columns = cell % 8 >= from % 8 && cell % 8 <= to % 8;
            boolean rows = cell / 8 >= from / 8 && cell / 8 <= to / 8;
            if (columns && rows) {
                cells++;
                Arrays.fill(foretold[cell], first, last + 1, storm);
            }
        }
        return "" + cells;
    }

    private String call(int cell, int need, int last) {
        if (not(cell, 48)) return index();
        if (out(need, 1, 50) || last <= hour || last > 999) return argument();
        if (calls.size() == 30) return state();
        calls.add(new int[] {cell, need, last, 0, -1, 0, 0});
        return "" + (calls.size() - 1);
    }

    private String cap(int to) {
        if (out(to, 0, 1000)) return argument();
        String before = "" + cap;
        cap = to;
        return before;
    }

    private String pass(int hours) {
        if (out(hours, 1, 48)) return argument();
        if (hour + hours > 999) return state();
        for (int i = 0; i < hours; i++) {
            hour++;
            stepOne();
            stepTwo();
            stepThree();
            stepFour();
        }
        return "" + hour;
    }

    private void stepOne() {
        for (int[] b : boats) {
            if (b[STATE] == 1 && b[FOR] >= 0) {
                int[] c = calls.get(b[FOR]);
                if (foretold[c[CELL]][b[NEXT]] > b[BEARS]) {
                    int wasOut = hour - b[SINCE];
                    c[HOW] = 0;
                    b[FOR] = -1;
                    b[NEXT] = hour + wasOut;
                    b[FUEL] = Math.max(0, b[FUEL] - wasOut * b[SPEED] * 2);
                }
            }
        }
    }

    private void stepTwo() {
        for (int[] b : boats) {
            if (b[STATE] != 1 || b[NEXT] != hour) continue;
            if (b[FOR] >= 0) {
                int[] c = calls.get(b[FOR]);
                int way = way(b[HOME], c[CELL]);
                c[HOW] = 2;
                c[REWARD] = Math.min(way * 10 + c[NEED] * 5, cap);
                pay(b, c[REWARD]);
                doneLog.add(new int[] {way, c[NEED], cap, b[CLUB], b[TASK_LENT]});
                b[FOR] = -1;
                b[FUEL] -= way + way;
                b[NEXT] = hour + Math.max(1, (way + b[SPEED] - 1) / b[SPEED]);
            } else {
                b[STATE] = 2;
                b[FUEL] = b[TANK];
                b[NEXT] = hour + (hour - b[SINCE]);
            }
        }
    }

    private void pay(int[] b, int reward) {
        if (b[TASK_LENT] == b[CLUB]) {
            got[b[CLUB]] += reward;
        } else {
            got[b[CLUB]] += reward / 2;
            got[b[TASK_LENT]] += reward - reward / 2;
        }
    }

    private void stepThree() {
        for (int[] b : boats) {
            if (b[STATE] == 2 && b[NEXT] == hour) {
                b[STATE] = 0;
                b[NEXT] = -1;
            }
        }
    }

    private void stepFour() {
        for (int number = 0; number < calls.size(); number++) {
            int[] c = calls.get(number);
            if (c[HOW] != 0) continue;
            if (c[UNTIL] < hour) {
                c[HOW] = 3;
                continue;
            }
            for (int hours = 1; hours <= 5 && c[HOW] == 0; hours++) {
                taskWithin(hours, number, c);
            }
        }
    }

    private void taskWithin(int hours, int number, int[] c) {
        for (int i = 0; i < boats.size() && c[HOW] == 0; i++) {
            int[] b = boats.get(i);
            int way = way(b[HOME], c[CELL]);
            int needed = Math.max(1, (way + b[SPEED] - 1) / b[SPEED]);
            boolean can = b[STATE] == 0 && needed == hours && hour + hours <= c[UNTIL] && b[FUEL] >= 2 * way;
            if (can && foretold[c[CELL]][hour + hours] <= b[BEARS]) {
                c[HOW] = 1;
                c[BOAT] = i;
                c[TASKS]++;
                b[STATE] = 1;
                b[FOR] = number;
                b[NEXT] = hour + hours;
                b[SINCE] = hour;
                b[TASK_LENT] = b[LENT];
            }
        }
    }

    private static int way(int one, int other) {
        return Math.abs(one % 8 - other % 8) + Math.abs(one / 8 - other / 8);
    }

    private String storm(int cell, int at) {
        if (not(cell, 48)) return index();
        return out(at, hour, 999) ? argument() : "" + foretold[cell][at];
    }

    private String ofBoat(int boat, int what) {
        if (not(boat, boats.size())) return index();
        if (out(what, 0, 3)) return argument();
        return "" + boats.get(boat)[STATE + what];
    }

    private String ofCall(int call, int what) {
        if (not(call, calls.size())) return index();
        if (out(what, 0, 3)) return argument();
        return "" + calls.get(call)[HOW + what];
    }

    private int anew(int club) {
        int sum = 0;
        for (int[] done : doneLog) {
            int reward = Math.min(done[0] * 10 + done[1] * 5, done[2]);
            int half = done[3] == done[4] ? reward : reward / 2;
            sum += (club == done[3] ? half : 0) + (club == done[4] ? reward - half : 0);
        }
        return sum;
    }

    private String premium(int cell) {
        int greatest = 0;
        for (int at = hour; at < hour + 24 && at < 1000; at++) {
            greatest = Math.max(greatest, foretold[cell][at]);
        }
        int ever = 0;
        for (int[] c : calls) {
            ever += c[CELL] == cell ? 1 : 0;
        }
        return "" + (1.5f * greatest + 0.25f * ever);
    }
}
