/**
 * A stair light timer: floors with lamps, sensors and buttons, people who walk from floor to floor,
 * rules for the night and for a fire, walks as texts, and undo.
 */
public final class StairLight {

    /** There is nothing to return. */
    public static final int NONE = -1;

    private static final int FLOORS = 8;
    private static final int MOST_PEOPLE = 6;
    private static final int MOST_CODES = 60;
    private static final int MOST_STATES = 6;
    private static final int MOST_SECONDS = 300;

    /** Above any way on the stairs: seven floors of 60 seconds, and the second in which one is gone. */
    private static final int LONGEST_WAY = 480;

    private static final int OFF = 0;
    private static final int DIM = 1;
    private static final int WARNING = 2;
    private static final int ON = 3;

    private static final int BURN_TIME = 0;
    private static final int WARN_TIME = 1;
    private static final int NEIGHBOURS = 2;
    private static final int WALK_TIME = 3;

    private static final int[] FIRST_VALUES = {20, 5, 0, 8};
    private static final int[] LEAST_VALUES = {1, 0, 0, 1};
    private static final int[] GREATEST_VALUES = {200, 60, 1, 60};

    private static final int FLOOR_NUMBERS = 8;
    private static final int PERSON_NUMBERS = 4;
    private static final int COUNTS = 11;
    private static final int OUTLOOKS = 4;

    private static final int FIRST_CODE = 33;
    private static final int LAST_CODE = 126;

    private static final long FIRST_HASH = 3061L;

    private final Stairs now;
    /** The stairs on which is tried what would be; kept, so that no call makes new ones. */
    private final Stairs trial;
    private final History history;
    private final Walks walks;

    public StairLight() {
        now = new Stairs();
        trial = new Stairs();
        history = new History();
        walks = new Walks();
    }

    // ---- people

    public int come(int floor, int to)
            throws IndexOutOfBoundsException, IllegalArgumentException, IllegalStateException {
        checkWay(floor, to);
        if (now.people.onStairs >= MOST_PEOPLE) {
            throw new IllegalStateException("the stairs are full");
        }
        history.save(now);
        return now.letCome(floor, to);
    }

    public int turn(int person, int to) throws IndexOutOfBoundsException {
        int place = now.people.placeOf(person);
        if (place == NONE) {
            throw new IndexOutOfBoundsException("no such person on the stairs");
        }
        checkFloor(to);
        history.save(now);
        int before = at(now.people.goals, place);
        now.people.sendTo(place, to, at(now.settings, WALK_TIME));
        return before;
    }

    // ---- lamps, rules

    public int press(int floor) throws IndexOutOfBoundsException {
        checkFloor(floor);
        history.save(now);
        int before = at(now.floors.burning, floor);
        now.switchOn(floor);
        return before;
    }

    public int sensor(int floor, boolean isSound) throws IndexOutOfBoundsException {
        checkFloor(floor);
        history.save(now);
        int before = at(now.floors.sound, floor);
        put(now.floors.sound, floor, numberOf(isSound));
        return before;
    }

    public int night(boolean isNight) {
        history.save(now);
        int before = numberOf(now.isNight);
        now.isNight = isNight;
        return before;
    }

    public int fire(boolean isFire) {
        history.save(now);
        int before = numberOf(now.isFire);
        if (now.isFire && !isFire) {
            now.switchAllOn();
        }
        now.isFire = isFire;
        return before;
    }

    public int set(int setting, int value) throws IndexOutOfBoundsException, IllegalArgumentException {
        checkSetting(setting);
        if (value < at(LEAST_VALUES, setting) || value > at(GREATEST_VALUES, setting)) {
            throw new IllegalArgumentException("the value is out of range");
        }
        history.save(now);
        int before = at(now.settings, setting);
        put(now.settings, setting, value);
        return before;
    }

    public int pass(int seconds) throws IllegalArgumentException {
        checkSeconds(seconds);
        history.save(now);
        return now.letPass(seconds);
    }

    // ---- texts

    public int append(int code) throws IllegalArgumentException, IllegalStateException {
        if (code < FIRST_CODE || code > LAST_CODE) {
            throw new IllegalArgumentException("no such character");
        }
        if (walks.length >= MOST_CODES) {
            throw new IllegalStateException("the buffer is full");
        }
        return walks.add((char) code);
    }

    public int clearBuffer() {
        return walks.clear();
    }

    public int firstError() {
        return walks.errorPlace();
    }

    public int comeAll() throws IllegalArgumentException {
        if (!walks.isComplete()) {
            throw new IllegalArgumentException("the buffer is not complete walks as a text");
        }
        history.save(now);
        int seconds = 0;
        int parts = walks.parts();
        for (int part = 0; part < parts; part++) {
            seconds += now.waitForRoom();
            now.letCome(walks.startOf(part), walks.goalOf(part));
        }
        walks.clear();
        return seconds;
    }

    public int undo() throws IllegalStateException {
        if (history.held <= 0) {
            throw new IllegalStateException("no saved state");
        }
        history.restore(now);
        return history.held;
    }

    // ---- looks; nothing is changed

    public int floor(int floor, int what) throws IndexOutOfBoundsException, IllegalArgumentException {
        checkFloor(floor);
        checkWhat(what, FLOOR_NUMBERS);
        return now.floorNumber(floor, what);
    }

    public int person(int place, int what) throws IllegalArgumentException {
        if (place < 0) {
            throw new IllegalArgumentException("no such place");
        }
        checkWhat(what, PERSON_NUMBERS);
        return now.people.personNumber(place, what);
    }

    public int count(int what) throws IllegalArgumentException {
        checkWhat(what, COUNTS);
        return counted(what);
    }

    public int setting(int setting) throws IndexOutOfBoundsException {
        checkSetting(setting);
        return at(now.settings, setting);
    }

    // ---- what would be; nothing is changed

    public int ifPassed(int seconds, int what) throws IllegalArgumentException {
        checkSeconds(seconds);
        checkWhat(what, OUTLOOKS);
        return outlook(seconds, what);
    }

    public int dark(int floor, int to) throws IndexOutOfBoundsException, IllegalArgumentException {
        checkWay(floor, to);
        return darkWith(at(now.settings, BURN_TIME), floor, to);
    }

    public int leastTime(int floor, int to) throws IndexOutOfBoundsException, IllegalArgumentException {
        checkWay(floor, to);
        return leastBurnTime(floor, to);
    }

    public int worst() {
        return now.floors.mostMissed();
    }

    public double lightness() {
        return now.lightShare();
    }

    public long digest() {
        long hash = FIRST_HASH;
        for (int what = 0; what < COUNTS; what++) {
            hash = mixed(hash, counted(what));
        }
        for (int setting = 0; setting < now.settings.length; setting++) {
            hash = mixed(hash, now.settings[setting]);
        }
        hash = mixedWithFloors(hash);
        hash = mixedWithPeople(hash);
        for (int what = 0; what < OUTLOOKS; what++) {
            hash = mixed(hash, outlook(30, what));
        }
        int burnTime = at(now.settings, BURN_TIME);
        hash = mixed(hash, darkWith(burnTime, 0, 7));
        hash = mixed(hash, darkWith(burnTime, 6, 2));
        hash = mixed(hash, leastBurnTime(1, 5));
        hash = mixed(hash, now.floors.mostMissed());
        hash = mixed(hash, bitsOf(now.lightShare()));
        return mixedWithBuffer(hash);
    }

    // ---- what the calls refuse

    private static void checkFloor(int floor) throws IndexOutOfBoundsException {
        if (floor < 0 || floor >= FLOORS) {
            throw new IndexOutOfBoundsException("no such floor");
        }
    }

    private static void checkWay(int floor, int to) throws IndexOutOfBoundsException, IllegalArgumentException {
        checkFloor(floor);
        checkFloor(to);
        if (floor == to) {
            throw new IllegalArgumentException("both floors are the same");
        }
    }

    private static void checkSetting(int setting) throws IndexOutOfBoundsException {
        if (setting < 0 || setting >= FIRST_VALUES.length) {
            throw new IndexOutOfBoundsException("no such setting");
        }
    }

    private static void checkSeconds(int seconds) throws IllegalArgumentException {
        if (seconds < 1 || seconds > MOST_SECONDS) {
            throw new IllegalArgumentException("seconds are out of range");
        }
    }

    private static void checkWhat(int what, int kinds) throws IllegalArgumentException {
        if (what < 0 || what >= kinds) {
            throw new IllegalArgumentException("there is no such number");
        }
    }

    // ---- what the calls answer

    private int counted(int what) {
        switch (what) {
            case 0:
                return now.seconds;
            case 1:
                return now.people.onStairs;
            case 2:
                return now.people.came;
            case 3:
                return now.lampsBurning();
            case 4:
                return sumOf(now.floors.darkSeconds);
            case 5:
                return sumOf(now.floors.dimSeconds);
            case 6:
                return sumOf(now.floors.energy);
            case 7:
                return numberOf(now.isNight);
            case 8:
                return numberOf(now.isFire);
            case 9:
                return FLOORS - sumOf(now.floors.sound);
            default:
                return history.held;
        }
    }

    private int outlook(int seconds, int what) {
        trial.copyFrom(now);
        int dark = trial.letPass(seconds);
        switch (what) {
            case 0:
                return dark;
            case 1:
                return sumOf(trial.floors.energy) - sumOf(now.floors.energy);
            case 2:
                return trial.people.onStairs;
            default:
                return trial.lampsBurning();
        }
    }

    /** How many seconds somebody who came now would walk in the dark, if lamps burned that long. */
    private int darkWith(int burnTime, int floor, int to) {
        trial.copyFrom(now);
        put(trial.settings, BURN_TIME, burnTime);
        int number = trial.letCome(floor, to);
        int dark = 0;
        for (int second = 0; second < LONGEST_WAY; second++) {
            trial.beginSecond();
            int place = trial.people.placeOf(number);
            if (place == NONE) {
                return dark;
            }
            if (trial.lampOf(at(trial.people.floors, place)) == OFF) {
                dark++;
            }
            trial.endSecond();
        }
        return dark;
    }

    /**
     * Halves the times between the least and the greatest one: nobody's way depends on the lamps, and
     * a lamp that is switched on for longer is never off sooner, so that a longer time brings no more
     * seconds in the dark.
     */
    private int leastBurnTime(int floor, int to) {
        int low = at(LEAST_VALUES, BURN_TIME);
        int high = at(GREATEST_VALUES, BURN_TIME);
        int least = darkWith(high, floor, to);
        for (int tries = high; low < high && tries > 0; tries--) {
            int middle = (low + high) / 2;
            if (darkWith(middle, floor, to) == least) {
                high = middle;
            } else {
                low = middle + 1;
            }
        }
        return low;
    }

    // ---- the hash

    private static long mixed(long hash, long value) {
        return 31L * hash + value;
    }

    private long mixedWithFloors(long hash) {
        long result = hash;
        for (int floor = 0; floor < FLOORS; floor++) {
            for (int what = 0; what < FLOOR_NUMBERS; what++) {
                result = mixed(result, now.floorNumber(floor, what));
            }
        }
        return result;
    }

    private long mixedWithPeople(long hash) {
        long result = hash;
        for (int place = 0; place < now.people.onStairs; place++) {
            for (int what = 0; what < PERSON_NUMBERS; what++) {
                result = mixed(result, now.people.personNumber(place, what));
            }
        }
        return result;
    }

    private long mixedWithBuffer(long hash) {
        long result = mixed(hash, walks.length);
        for (int place = 0; place < walks.length; place++) {
            result = mixed(result, walks.codeAt(place));
        }
        return result;
    }

    /**
     * The bits of a share from 0 to 1 as Double.doubleToLongBits tells them; that call is not in the
     * part of Java that this program keeps to. Doubling is exact, and so is every step here.
     */
    private static long bitsOf(double share) {
        double fraction = share;
        for (int exponent = 1023; exponent > 0 && fraction > 0.0; exponent--) {
            if (fraction >= 1.0) {
                return ((long) exponent << 52) + (long) ((fraction - 1.0) * 4503599627370496.0);
            }
            fraction = fraction * 2.0;
        }
        return 0L;
    }

    // ---- rows; a place that a row does not have is never touched

    private static int at(int[] row, int place) {
        return place >= 0 && place < row.length ? row[place] : 0;
    }

    private static void put(int[] row, int place, int value) {
        if (place >= 0 && place < row.length) {
            row[place] = value;
        }
    }

    private static void raise(int[] row, int place, int more) {
        if (place >= 0 && place < row.length) {
            row[place] += more;
        }
    }

    private static int sumOf(int[] row) {
        int sum = 0;
        for (int place = 0; place < row.length; place++) {
            sum += row[place];
        }
        return sum;
    }

    private static void copyRow(int[] from, int[] to) {
        for (int place = 0; place < from.length && place < to.length; place++) {
            to[place] = from[place];
        }
    }

    private static int numberOf(boolean isSo) {
        return isSo ? 1 : 0;
    }

    /** The lamps and sensors of the floors, and what was counted on each floor. */
    private static final class Floors {
        final int[] burning;
        /** 1 where the sensor is sound, 0 where it is broken. */
        final int[] sound;
        final int[] darkSeconds;
        final int[] dimSeconds;
        final int[] energy;
        /** How often a lamp was switched on while it burned for 0 seconds. */
        final int[] kindled;

        Floors() {
            burning = new int[FLOORS];
            sound = new int[FLOORS];
            darkSeconds = new int[FLOORS];
            dimSeconds = new int[FLOORS];
            energy = new int[FLOORS];
            kindled = new int[FLOORS];
            for (int floor = 0; floor < sound.length; floor++) {
                sound[floor] = 1;
            }
        }

        void copyFrom(Floors other) {
            copyRow(other.burning, burning);
            copyRow(other.sound, sound);
            copyRow(other.darkSeconds, darkSeconds);
            copyRow(other.dimSeconds, dimSeconds);
            copyRow(other.energy, energy);
            copyRow(other.kindled, kindled);
        }

        void letBurn(int floor, int burnTime) {
            int before = at(burning, floor);
            if (before == 0) {
                raise(kindled, floor, 1);
            }
            if (before < burnTime) {
                put(burning, floor, burnTime);
            }
        }

        void burnDown(int floor) {
            if (at(burning, floor) > 0) {
                raise(burning, floor, -1);
            }
        }

        int mostMissed() {
            int found = NONE;
            for (int floor = 0; floor < FLOORS; floor++) {
                boolean isBroken = at(sound, floor) == 0;
                if (isBroken && (found == NONE || at(darkSeconds, floor) > at(darkSeconds, found))) {
                    found = floor;
                }
            }
            return found;
        }
    }

    /** The people on the stairs, by ascending numbers. */
    private static final class People {
        final int[] numbers;
        final int[] floors;
        final int[] goals;
        /** Seconds until the next floor; 0 for who is at the goal. */
        final int[] left;
        int onStairs;
        int came;

        /** Makes one place more than people may come: for the one who is only imagined. */
        People() {
            numbers = new int[MOST_PEOPLE + 1];
            floors = new int[MOST_PEOPLE + 1];
            goals = new int[MOST_PEOPLE + 1];
            left = new int[MOST_PEOPLE + 1];
            onStairs = 0;
            came = 0;
        }

        void copyFrom(People other) {
            copyRow(other.numbers, numbers);
            copyRow(other.floors, floors);
            copyRow(other.goals, goals);
            copyRow(other.left, left);
            onStairs = other.onStairs;
            came = other.came;
        }

        int enter(int floor, int goal, int walkTime) {
            if (onStairs >= numbers.length) {
                return NONE;
            }
            int number = came;
            put(numbers, onStairs, number);
            put(floors, onStairs, floor);
            sendTo(onStairs, goal, walkTime);
            onStairs++;
            came++;
            return number;
        }

        void sendTo(int place, int goal, int walkTime) {
            put(goals, place, goal);
            put(left, place, isThere(place) ? 0 : walkTime);
        }

        boolean isThere(int place) {
            return at(floors, place) == at(goals, place);
        }

        /** Whose number it is, by place; NONE if that one is not on the stairs. */
        int placeOf(int number) {
            for (int place = 0; place < onStairs; place++) {
                if (at(numbers, place) == number) {
                    return place;
                }
            }
            return NONE;
        }

        int peopleOn(int floor) {
            int found = 0;
            for (int place = 0; place < onStairs; place++) {
                if (at(floors, place) == floor) {
                    found++;
                }
            }
            return found;
        }

        /** Everybody goes on for a second; those who stay close up, so that no place is empty. */
        void goOn(int walkTime) {
            int stayed = 0;
            for (int place = 0; place < onStairs; place++) {
                if (!isThere(place)) {
                    walk(place, walkTime);
                    moveUp(place, stayed);
                    stayed++;
                }
            }
            onStairs = stayed;
        }

        private void walk(int place, int walkTime) {
            raise(left, place, -1);
            if (at(left, place) > 0) {
                return;
            }
            raise(floors, place, at(goals, place) > at(floors, place) ? 1 : -1);
            put(left, place, isThere(place) ? 0 : walkTime);
        }

        private void moveUp(int from, int to) {
            put(numbers, to, at(numbers, from));
            put(floors, to, at(floors, from));
            put(goals, to, at(goals, from));
            put(left, to, at(left, from));
        }

        int personNumber(int place, int what) {
            if (place >= onStairs) {
                return NONE;
            }
            switch (what) {
                case 0:
                    return at(numbers, place);
                case 1:
                    return at(floors, place);
                case 2:
                    return at(goals, place);
                default:
                    return at(left, place);
            }
        }
    }

    /** All that undo brings back. */
    private static final class Stairs {
        final Floors floors;
        final People people;
        final int[] settings;
        boolean isNight;
        boolean isFire;
        int seconds;
        int secondsOfPeople;

        Stairs() {
            floors = new Floors();
            people = new People();
            settings = new int[FIRST_VALUES.length];
            copyRow(FIRST_VALUES, settings);
            isNight = false;
            isFire = false;
            seconds = 0;
            secondsOfPeople = 0;
        }

        void copyFrom(Stairs other) {
            floors.copyFrom(other.floors);
            people.copyFrom(other.people);
            copyRow(other.settings, settings);
            isNight = other.isNight;
            isFire = other.isFire;
            seconds = other.seconds;
            secondsOfPeople = other.secondsOfPeople;
        }

        int letCome(int floor, int goal) {
            return people.enter(floor, goal, at(settings, WALK_TIME));
        }

        /** Switches a lamp on, if there is such a floor: the floors 0 and 7 have one neighbour each. */
        void switchOn(int floor) {
            floors.letBurn(floor, at(settings, BURN_TIME));
        }

        void switchAllOn() {
            for (int floor = 0; floor < FLOORS; floor++) {
                switchOn(floor);
            }
        }

        int lampOf(int floor) {
            if (isFire) {
                return ON;
            }
            int burning = at(floors.burning, floor);
            if (burning == 0) {
                return isNight ? DIM : OFF;
            }
            return burning <= at(settings, WARN_TIME) ? WARNING : ON;
        }

        int lampsBurning() {
            int found = 0;
            for (int floor = 0; floor < FLOORS; floor++) {
                if (lampOf(floor) >= WARNING) {
                    found++;
                }
            }
            return found;
        }

        /** Lets seconds pass, and tells how many seconds of people were dark in them. */
        int letPass(int passing) {
            int before = sumOf(floors.darkSeconds);
            for (int second = 0; second < passing; second++) {
                beginSecond();
                endSecond();
            }
            return sumOf(floors.darkSeconds) - before;
        }

        /** Lets seconds pass until somebody may come, and tells how many. */
        int waitForRoom() {
            int waited = 0;
            while (people.onStairs >= MOST_PEOPLE && waited < LONGEST_WAY) {
                letPass(1);
                waited++;
            }
            return waited;
        }

        /** People walk and sensors look: then it stands which lamps burn in this second. */
        void beginSecond() {
            people.goOn(at(settings, WALK_TIME));
            for (int floor = 0; floor < FLOORS; floor++) {
                if (at(floors.sound, floor) == 1 && people.peopleOn(floor) > 0) {
                    switchOn(floor);
                    if (at(settings, NEIGHBOURS) == 1) {
                        switchOn(floor - 1);
                        switchOn(floor + 1);
                    }
                }
            }
        }

        /** What the second brought is counted, and lamps burn down. */
        void endSecond() {
            for (int place = 0; place < people.onStairs; place++) {
                countSecondOn(at(people.floors, place));
            }
            for (int floor = 0; floor < FLOORS; floor++) {
                raise(floors.energy, floor, powerOf(lampOf(floor)));
                floors.burnDown(floor);
            }
            seconds++;
        }

        private void countSecondOn(int floor) {
            int lamp = lampOf(floor);
            if (lamp == OFF) {
                raise(floors.darkSeconds, floor, 1);
            } else if (lamp == DIM) {
                raise(floors.dimSeconds, floor, 1);
            }
            secondsOfPeople++;
        }

        private static int powerOf(int lamp) {
            if (lamp >= WARNING) {
                return 10;
            }
            return lamp == DIM ? 3 : 0;
        }

        double lightShare() {
            if (secondsOfPeople <= 0) {
                return 1.0;
            }
            int light = secondsOfPeople - sumOf(floors.darkSeconds) - sumOf(floors.dimSeconds);
            return (double) light / (double) secondsOfPeople;
        }

        int floorNumber(int floor, int what) {
            switch (what) {
                case 0:
                    return lampOf(floor);
                case 1:
                    return at(floors.burning, floor);
                case 2:
                    return at(floors.sound, floor);
                case 3:
                    return people.peopleOn(floor);
                case 4:
                    return at(floors.darkSeconds, floor);
                case 5:
                    return at(floors.dimSeconds, floor);
                case 6:
                    return at(floors.energy, floor);
                default:
                    return at(floors.kindled, floor);
            }
        }
    }

    /** The saved states, in a ring: the oldest one gives its place to the newest. */
    private static final class History {
        private final Stairs[] states;
        private int oldest;
        int held;

        History() {
            states = new Stairs[MOST_STATES];
            for (int place = 0; place < states.length; place++) {
                states[place] = new Stairs();
            }
            oldest = 0;
            held = 0;
        }

        void save(Stairs stairs) {
            if (held >= MOST_STATES) {
                oldest = (oldest + 1) % MOST_STATES;
                held--;
            }
            Stairs state = stateAt((oldest + held) % MOST_STATES);
            if (state != null) {
                state.copyFrom(stairs);
                held++;
            }
        }

        void restore(Stairs stairs) {
            if (held <= 0) {
                return;
            }
            held--;
            Stairs state = stateAt((oldest + held) % MOST_STATES);
            if (state != null) {
                stairs.copyFrom(state);
            }
        }

        private Stairs stateAt(int place) {
            return place >= 0 && place < states.length ? states[place] : null;
        }
    }

    /** The buffer: walks as a text, of four characters each, the last of which is the ";" between two. */
    private static final class Walks {
        private static final int PART = 4;

        private final char[] codes;
        int length;

        Walks() {
            codes = new char[MOST_CODES];
            length = 0;
        }

        int add(char code) {
            if (length >= 0 && length < codes.length) {
                codes[length] = code;
                length++;
            }
            return length;
        }

        int clear() {
            int before = length;
            length = 0;
            return before;
        }

        char codeAt(int place) {
            return place >= 0 && place < codes.length ? codes[place] : ' ';
        }

        int errorPlace() {
            for (int place = 0; place < length; place++) {
                if (!fitsAt(place)) {
                    return place;
                }
            }
            return length;
        }

        /** Whether a character goes on with what stands before it, if there is no error before. */
        private boolean fitsAt(int place) {
            char code = codeAt(place);
            switch (place % PART) {
                case 0:
                    return isFloor(code);
                case 1:
                    char start = codeAt(place - 1);
                    return code == '>' && start < '7' || code == '<' && start > '0';
                case 2:
                    return isFloor(code) && fitsSign(codeAt(place - 2), codeAt(place - 1), code);
                default:
                    return code == ';';
            }
        }

        private static boolean isFloor(char code) {
            return code >= '0' && code <= '7';
        }

        private static boolean fitsSign(char start, char sign, char goal) {
            return sign == '>' ? goal > start : goal < start;
        }

        boolean isComplete() {
            return length % PART == PART - 1 && errorPlace() == length;
        }

        int parts() {
            return (length + 1) / PART;
        }

        int startOf(int part) {
            return codeAt(part * PART) - '0';
        }

        int goalOf(int part) {
            return codeAt(part * PART + 2) - '0';
        }
    }
}
