import java.util.ArrayList;
import java.util.List;

/** A market of rescue boats with its weather desk and its insurers. */
public final class Rescuemarket {
    public static final int NONE = -1;
    public static final int FREE = 0, OUT = 1, RESTS = 2;
    public static final int OPEN = 0, TASKED = 1, DONE = 2, LOST = 3;

    private static final int COLUMNS = 8;
    private static final int CELLS = 48;
    private static final int CLUBS = 3;
    private static final int LAST_HOUR = 999;
    private static final int MOST_BOATS = 6;
    private static final int MOST_CALLS = 30;
    private static final int MOST_SPEED = 3;
    private static final int MOST_FUEL = 100;
    private static final int MOST_STORM = 9;
    private static final int MOST_NEED = 50;
    private static final int MOST_CAP = 1000;
    private static final int FIRST_CAP = 200;
    private static final int MOST_HOURS_AT_ONCE = 48;
    private static final int MOST_HOURS_THERE = 5;
    private static final int PREMIUM_HOURS = 24;
    private static final int LAST_QUESTION = 3;

    private final Weather weather;
    private final Ledger ledger;
    private final List<Boat> boats;
    private final List<Call> calls;
    private int now;
    private int highestReward;

    public Rescuemarket() {
        weather = new Weather();
        ledger = new Ledger();
        boats = new ArrayList<>();
        calls = new ArrayList<>();
        now = 0;
        highestReward = FIRST_CAP;
    }

    public int boat(int club, int home, int speed, int fuel, int bears)
            throws IndexOutOfBoundsException, IllegalArgumentException, IllegalStateException {
        checkClub(club);
        checkCell(home);
        checkWithin(speed, 1, MOST_SPEED);
        checkWithin(fuel, 1, MOST_FUEL);
        checkWithin(bears, 0, MOST_STORM);
        int number = boats.size();
        if (number >= MOST_BOATS) {
            throw new IllegalStateException("there are as many boats as there may be");
        }
        boats.add(new Boat(number, club, home, speed, fuel, bears));
        return number;
    }

    public int lend(int boat, int club) throws IndexOutOfBoundsException {
        Boat lent = boatNumbered(boat);
        checkClub(club);
        int before = lent.user;
        lent.user = club;
        return before;
    }

    public int foretell(int from, int to, int first, int last, int storm)
            throws IndexOutOfBoundsException, IllegalArgumentException {
        checkCell(from);
        checkCell(to);
        int width = columnOf(to) - columnOf(from) + 1;
        int height = rowOf(to) - rowOf(from) + 1;
        if (width < 1 || height < 1) {
            throw new IllegalArgumentException("the last cell is ahead of the first");
        }
        checkWithin(first, now, LAST_HOUR);
        checkWithin(last, first, LAST_HOUR);
        checkWithin(storm, 0, MOST_STORM);
        for (int row = 0; row < height; row++) {
            for (int column = 0; column < width; column++) {
                weather.put(from + row * COLUMNS + column, first, last, storm);
            }
        }
        return width * height;
    }

    public int call(int cell, int need, int last)
            throws IndexOutOfBoundsException, IllegalArgumentException, IllegalStateException {
        checkCell(cell);
        checkWithin(need, 1, MOST_NEED);
        checkWithin(last, now + 1, LAST_HOUR);
        int number = calls.size();
        if (number >= MOST_CALLS) {
            throw new IllegalStateException("there are as many calls as there may be");
        }
        calls.add(new Call(number, cell, need, last));
        return number;
    }

    public int cap(int cap) throws IllegalArgumentException {
        checkWithin(cap, 0, MOST_CAP);
        int before = highestReward;
        highestReward = cap;
        return before;
    }

    public int pass(int hours) throws IllegalArgumentException, IllegalStateException {
        checkWithin(hours, 1, MOST_HOURS_AT_ONCE);
        if (now + hours > LAST_HOUR) {
            throw new IllegalStateException("there are no hours behind the last one");
        }
        for (int passed = 0; passed < hours; passed++) {
            now++;
            turnBoatsBack();
            letBoatsArrive();
            freeBoatsThatRested();
            answerCalls();
        }
        return now;
    }

    public int storm(int cell, int hour) throws IndexOutOfBoundsException, IllegalArgumentException {
        checkCell(cell);
        checkWithin(hour, now, LAST_HOUR);
        return weather.at(cell, hour);
    }

    public int ofBoat(int boat, int what) throws IndexOutOfBoundsException, IllegalArgumentException {
        Boat told = boatNumbered(boat);
        checkWithin(what, 0, LAST_QUESTION);
        switch (what) {
            case 0:
                return told.state;
            case 1:
                return told.call == null ? NONE : told.call.number;
            case 2:
                return told.next;
            default:
                return told.fuel;
        }
    }

    public int ofCall(int call, int what) throws IndexOutOfBoundsException, IllegalArgumentException {
        Call told = callNumbered(call);
        checkWithin(what, 0, LAST_QUESTION);
        switch (what) {
            case 0:
                return told.state;
            case 1:
                return told.boat == null ? NONE : told.boat.number;
            case 2:
                return told.tasks;
            default:
                return told.reward;
        }
    }

    public int rewards(int club) throws IndexOutOfBoundsException {
        checkClub(club);
        return ledger.paidTo(club);
    }

    public int rewardsAnew(int club) throws IndexOutOfBoundsException {
        checkClub(club);
        return ledger.foundInLogFor(club);
    }

    public float premium(int cell) throws IndexOutOfBoundsException {
        checkCell(cell);
        int last = Math.min(now + PREMIUM_HOURS - 1, LAST_HOUR);
        return 1.5f * weather.greatest(cell, now, last) + 0.25f * callsEverAt(cell);
    }

    private void turnBoatsBack() {
        for (int i = 0; i < boats.size(); i++) {
            Boat boat = boats.get(i);
            Call call = boat.call;
            if (call != null && weather.at(call.cell, boat.next) > boat.bears) {
                boat.turnBack(now);
                call.state = OPEN;
            }
        }
    }

    private void letBoatsArrive() {
        for (int i = 0; i < boats.size(); i++) {
            Boat boat = boats.get(i);
            if (boat.state == OUT && boat.next == now) {
                if (boat.call == null) {
                    boat.rest(now);
                } else {
                    finish(boat, boat.call);
                }
            }
        }
    }

    private void finish(Boat boat, Call call) {
        int way = boat.wayTo(call.cell);
        Deed deed = new Deed(boat.club, boat.userOfTask, way, call.need, highestReward);
        ledger.pay(deed);
        call.state = DONE;
        call.reward = deed.reward();
        boat.goHome(now, way);
    }

    private void freeBoatsThatRested() {
        for (int i = 0; i < boats.size(); i++) {
            Boat boat = boats.get(i);
            if (boat.state == RESTS && boat.next == now) {
                boat.becomeFree();
            }
        }
    }

    private void answerCalls() {
        for (int i = 0; i < calls.size(); i++) {
            Call call = calls.get(i);
            if (call.state == OPEN && call.last < now) {
                call.state = LOST;
            } else if (call.state == OPEN) {
                task(boatFirstThere(call), call);
            }
        }
    }

    private void task(Boat boat, Call call) {
        if (boat != null) {
            boat.leaveFor(call, now, hourThere(boat, call));
            call.state = TASKED;
            call.boat = boat;
            call.tasks++;
        }
    }

    private Boat boatFirstThere(Call call) {
        Boat first = null;
        int firstHour = NONE;
        for (int i = 0; i < boats.size(); i++) {
            Boat boat = boats.get(i);
            int hour = hourThere(boat, call);
            if (hour != NONE && (first == null || hour < firstHour)) {
                first = boat;
                firstHour = hour;
            }
        }
        return first;
    }

    /** The hour in which the boat would be there, NONE if it can't take the call. */
    private int hourThere(Boat boat, Call call) {
        int way = boat.wayTo(call.cell);
        int hours = boat.hoursFor(way);
        if (boat.state != FREE || hours == NONE || boat.fuel < 2 * way) {
            return NONE;
        }
        int there = now + hours;
        return there <= call.last && weather.at(call.cell, there) <= boat.bears ? there : NONE;
    }

    private int callsEverAt(int cell) {
        int count = 0;
        for (int i = 0; i < calls.size(); i++) {
            if (calls.get(i).cell == cell) {
                count++;
            }
        }
        return count;
    }

    private Boat boatNumbered(int number) {
        if (number < 0 || number >= boats.size()) {
            throw new IndexOutOfBoundsException("there is no such boat");
        }
        return boats.get(number);
    }

    private Call callNumbered(int number) {
        if (number < 0 || number >= calls.size()) {
            throw new IndexOutOfBoundsException("there is no such call");
        }
        return calls.get(number);
    }

    private static void checkClub(int club) {
        if (club < 0 || club >= CLUBS) {
            throw new IndexOutOfBoundsException("there is no such club");
        }
    }

    private static void checkCell(int cell) {
        if (cell < 0 || cell >= CELLS) {
            throw new IndexOutOfBoundsException("there is no such cell");
        }
    }

    private static void checkWithin(int value, int least, int most) {
        if (value < least || value > most) {
            throw new IllegalArgumentException("an argument is out of range");
        }
    }

    private static int columnOf(int cell) {
        return cell % COLUMNS;
    }

    private static int rowOf(int cell) {
        return cell / COLUMNS;
    }

    /** A boat with where it stands in its round of task, way home and rest. */
    static final class Boat {
        final int number;
        final int club;
        final int bears;
        private final int home;
        private final int speed;
        private final int tank;
        /** The club to which it is lent, its own if it is not. */
        int user;
        /** The user when it was tasked: lending it anew leaves a task that runs as it is. */
        int userOfTask;
        int state;
        /** The call for which it is out, null on the way home and at home. */
        Call call;
        /** The hour in which it is there, home, or FREE next. */
        int next;
        int fuel;
        private int left;

        Boat(int number, int club, int home, int speed, int fuel, int bears) {
            this.number = number;
            this.club = club;
            this.home = home;
            this.speed = speed;
            this.bears = bears;
            this.tank = fuel;
            this.fuel = fuel;
            this.user = club;
            this.userOfTask = club;
            this.state = FREE;
            this.call = null;
            this.next = NONE;
            this.left = NONE;
        }

        int wayTo(int cell) {
            return Math.abs(columnOf(cell) - columnOf(home)) + Math.abs(rowOf(cell) - rowOf(home));
        }

        /** The hours for the way there, NONE if there and back would keep it out too long. */
        int hoursFor(int way) {
            for (int hours = 1; hours <= MOST_HOURS_THERE; hours++) {
                if (hours * speed >= way) {
                    return hours;
                }
            }
            return NONE;
        }

        void leaveFor(Call task, int hour, int there) {
            state = OUT;
            call = task;
            userOfTask = user;
            left = hour;
            next = there;
        }

        void turnBack(int hour) {
            burn(2 * speed * (hour - left));
            headHome(hour);
        }

        void goHome(int hour, int way) {
            burn(2 * way);
            headHome(hour);
        }

        void rest(int hour) {
            state = RESTS;
            fuel = tank;
            next = hour + (hour - left);
        }

        void becomeFree() {
            state = FREE;
            next = NONE;
        }

        private void burn(int amount) {
            fuel -= Math.min(amount, fuel);
        }

        private void headHome(int hour) {
            call = null;
            next = hour + (hour - left);
        }
    }

    /** A call with what has become of it. */
    static final class Call {
        final int number;
        final int cell;
        final int need;
        final int last;
        int state;
        /** The boat that was tasked last, null without. */
        Boat boat;
        int tasks;
        int reward;

        Call(int number, int cell, int need, int last) {
            this.number = number;
            this.cell = cell;
            this.need = need;
            this.last = last;
            this.state = OPEN;
            this.boat = null;
            this.tasks = 0;
            this.reward = 0;
        }
    }

    /**
     * What is foretold for each cell and hour. A storm fits into four bits, so
     * sixteen hours share a long: that keeps a new object small and makes a
     * wide foretelling cheap.
     */
    static final class Weather {
        private static final int HOURS_OF_WORD = 16;
        private static final int WORDS_OF_CELL = 63;
        private static final int BITS = 4;
        private static final long ONE_EACH_HOUR = 0x1111111111111111L;

        private final long[] words;

        Weather() {
            words = new long[CELLS * WORDS_OF_CELL];
        }

        void put(int cell, int first, int last, int storm) {
            long storms = storm * ONE_EACH_HOUR;
            for (int word = first / HOURS_OF_WORD; word <= last / HOURS_OF_WORD; word++) {
                int index = cell * WORDS_OF_CELL + word;
                if (index >= 0 && index < words.length) {
                    int start = word * HOURS_OF_WORD;
                    long mask = maskOf(Math.max(first - start, 0), Math.min(last - start, HOURS_OF_WORD - 1));
                    words[index] = (words[index] & ~mask) | (storms & mask);
                }
            }
        }

        int at(int cell, int hour) {
            int index = cell * WORDS_OF_CELL + hour / HOURS_OF_WORD;
            if (index < 0 || index >= words.length) {
                return 0;
            }
            return (int) (words[index] >>> BITS * (hour % HOURS_OF_WORD)) & 15;
        }

        int greatest(int cell, int first, int last) {
            int greatest = 0;
            for (int hour = first; hour <= last; hour++) {
                greatest = Math.max(greatest, at(cell, hour));
            }
            return greatest;
        }

        private static long maskOf(int first, int last) {
            long fromFirst = -1L << BITS * first;
            long toLast = -1L >>> BITS * (HOURS_OF_WORD - 1 - last);
            return fromFirst & toLast;
        }
    }

    /** The log's row of a call that was DONE, with its task: all that its reward rests on. */
    static final class Deed {
        private final int owner;
        private final int user;
        private final int way;
        private final int need;
        private final int cap;

        Deed(int owner, int user, int way, int need, int cap) {
            this.owner = owner;
            this.user = user;
            this.way = way;
            this.need = need;
            this.cap = cap;
        }

        int reward() {
            return Math.min(10 * way + 5 * need, cap);
        }

        int shareOf(int club) {
            int reward = reward();
            int ofOwner = owner == user ? reward : reward / 2;
            int share = club == owner ? ofOwner : 0;
            return club == user ? share + reward - ofOwner : share;
        }
    }

    /** What the clubs got, and the log from which it is found again. */
    static final class Ledger {
        private final int[] paid;
        private final List<Deed> log;

        Ledger() {
            paid = new int[CLUBS];
            log = new ArrayList<>();
        }

        void pay(Deed deed) {
            log.add(deed);
            for (int club = 0; club < paid.length; club++) {
                paid[club] += deed.shareOf(club);
            }
        }

        int paidTo(int club) {
            return club >= 0 && club < paid.length ? paid[club] : 0;
        }

        int foundInLogFor(int club) {
            int found = 0;
            for (int i = 0; i < log.size(); i++) {
                found += log.get(i).shareOf(club);
            }
            return found;
        }
    }
}
