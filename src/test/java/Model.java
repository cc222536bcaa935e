import java.util.ArrayDeque;
import java.util.ArrayList;
import java.util.Deque;
import java.util.List;
import java.util.regex.Pattern;

/**
 * The document once more, in another shape and without care for speed: a new world is made for every
 * trial, each time is tried for leastTime, and an error is found by asking whether any text begins so.
 */
final class Model {
    static final class Lamp {
        int burn;
        boolean sound = true;
        int dark;
        int dim;
        int energy;
        int kindled;

        Lamp copy() {
            Lamp c = new Lamp();
            c.burn = burn;
            c.sound = sound;
            c.dark = dark;
            c.dim = dim;
            c.energy = energy;
            c.kindled = kindled;
            return c;
        }
    }

    static final class Walker {
        int number;
        int floor;
        int goal;
        int left;
        int dark;

        Walker copy() {
            Walker c = new Walker();
            c.number = number;
            c.floor = floor;
            c.goal = goal;
            c.left = left;
            c.dark = dark;
            return c;
        }
    }

    static final class World {
        final Lamp[] lamps = new Lamp[8];
        final List<Walker> walkers = new ArrayList<>();
        int[] settings = {20, 5, 0, 8};
        boolean night;
        boolean fire;
        int seconds;
        int came;
        long lit;
        long all;

        World() {
            for (int i = 0; i < 8; i++) {
                lamps[i] = new Lamp();
            }
        }

        World copy() {
            World c = new World();
            for (int i = 0; i < 8; i++) {
                c.lamps[i] = lamps[i].copy();
            }
            for (Walker w : walkers) {
                c.walkers.add(w.copy());
            }
            c.settings = settings.clone();
            c.night = night;
            c.fire = fire;
            c.seconds = seconds;
            c.came = came;
            c.lit = lit;
            c.all = all;
            return c;
        }

        int lamp(int floor) {
            int burn = lamps[floor].burn;
            return fire ? 3 : burn == 0 ? (night ? 1 : 0) : burn <= settings[1] ? 2 : 3;
        }

        void on(int floor) {
            if (floor >= 0 && floor <= 7) {
                lamps[floor].kindled += lamps[floor].burn == 0 ? 1 : 0;
                lamps[floor].burn = Math.max(lamps[floor].burn, settings[0]);
            }
        }

        Walker come(int floor, int to) {
            Walker w = new Walker();
            w.number = came++;
            w.floor = floor;
            w.goal = to;
            w.left = settings[3];
            walkers.add(w);
            return w;
        }

        void second() {
            walkers.removeIf(w -> !goesOn(w));
            for (int f = 0; f < 8; f++) {
                int here = f;
                if (lamps[f].sound && walkers.stream().anyMatch(w -> w.floor == here)) {
                    on(f);
                    if (settings[2] == 1) {
                        on(f - 1);
                        on(f + 1);
                    }
                }
            }
            for (Walker w : walkers) {
                int lamp = lamp(w.floor);
                lamps[w.floor].dark += lamp == 0 ? 1 : 0;
                lamps[w.floor].dim += lamp == 1 ? 1 : 0;
                w.dark += lamp == 0 ? 1 : 0;
                lit += lamp >= 2 ? 1 : 0;
                all++;
            }
            for (int f = 0; f < 8; f++) {
                lamps[f].energy += new int[] {0, 3, 10, 10}[lamp(f)];
            }
            for (Lamp l : lamps) {
                l.burn = Math.max(0, l.burn - 1);
            }
            seconds++;
        }

        private boolean goesOn(Walker w) {
            if (w.floor == w.goal) {
                return false;
            }
            w.left--;
            if (w.left == 0) {
                w.floor += Integer.signum(w.goal - w.floor);
                w.left = w.floor == w.goal ? 0 : settings[3];
            }
            return true;
        }

        int burning() {
            int n = 0;
            for (int f = 0; f < 8; f++) {
                n += lamp(f) >= 2 ? 1 : 0;
            }
            return n;
        }

        int total(int what) {
            int n = 0;
            for (Lamp l : lamps) {
                n += what == 4 ? l.dark : what == 5 ? l.dim : what == 6 ? l.energy : l.sound ? 0 : 1;
            }
            return n;
        }
    }

    private World world = new World();
    private final Deque<World> saved = new ArrayDeque<>();
    private String buffer = "";

    private static void floorMustBe(int floor) {
        if (floor < 0 || floor > 7) {
            throw new IndexOutOfBoundsException();
        }
    }

    private static void must(boolean isSo) {
        if (!isSo) {
            throw new IllegalArgumentException();
        }
    }

    private static void mayStand(boolean isSo) {
        if (!isSo) {
            throw new IllegalStateException();
        }
    }

    private void save() {
        saved.addLast(world.copy());
        if (saved.size() > 6) {
            saved.removeFirst();
        }
    }

    int come(int floor, int to) {
        floorMustBe(floor);
        floorMustBe(to);
        must(floor != to);
        mayStand(world.walkers.size() < 6);
        save();
        return world.come(floor, to).number;
    }

    int turn(int person, int to) {
        floorMustBe(to);
        for (Walker w : world.walkers) {
            if (w.number == person) {
                save();
                int before = w.goal;
                w.goal = to;
                w.left = w.floor == to ? 0 : world.settings[3];
                return before;
            }
        }
        throw new IndexOutOfBoundsException();
    }

    int press(int floor) {
        floorMustBe(floor);
        save();
        int before = world.lamps[floor].burn;
        world.on(floor);
        return before;
    }

    int sensor(int floor, boolean sound) {
        floorMustBe(floor);
        save();
        boolean before = world.lamps[floor].sound;
        world.lamps[floor].sound = sound;
        return before ? 1 : 0;
    }

    int night(boolean night) {
        save();
        boolean before = world.night;
        world.night = night;
        return before ? 1 : 0;
    }

    int fire(boolean fire) {
        save();
        boolean before = world.fire;
        world.fire = fire;
        for (int f = 0; f < 8 && before && !fire; f++) {
            world.on(f);
        }
        return before ? 1 : 0;
    }

    int set(int setting, int value) {
        int before = setting(setting);
        must(value >= new int[] {1, 0, 0, 1}[setting] && value <= new int[] {200, 60, 1, 60}[setting]);
        save();
        world.settings[setting] = value;
        return before;
    }

    int pass(int seconds) {
        must(seconds >= 1 && seconds <= 300);
        save();
        int before = world.total(4);
        for (int i = 0; i < seconds; i++) {
            world.second();
        }
        return world.total(4) - before;
    }

    int append(int code) {
        must(code >= 33 && code <= 126);
        mayStand(buffer.length() < 60);
        buffer += (char) code;
        return buffer.length();
    }

    int clearBuffer() {
        int before = buffer.length();
        buffer = "";
        return before;
    }

    /** One part of each shape, as a pattern: the sign decides which floors may stand behind it. */
    private static final Pattern WALKS = Pattern.compile(parts());

    private static String parts() {
        StringBuilder one = new StringBuilder();
        for (int from = 0; from < 8; from++) {
            for (int to = 0; to < 8; to++) {
                if (from != to) {
                    one.append(one.length() == 0 ? "" : "|").append(from).append(from < to ? ">" : "<").append(to);
                }
            }
        }
        return "(?:" + one + ")(?:;(?:" + one + "))*";
    }

    private static boolean isBeginning(String text) {
        java.util.regex.Matcher m = WALKS.matcher(text);
        return m.matches() || m.hitEnd();
    }

    int firstError() {
        for (int i = 0; i < buffer.length(); i++) {
            if (!isBeginning(buffer.substring(0, i + 1))) {
                return i;
            }
        }
        return buffer.length();
    }

    int comeAll() {
        must(WALKS.matcher(buffer).matches());
        save();
        int before = world.seconds;
        for (String part : buffer.split(";")) {
            while (world.walkers.size() >= 6) {
                world.second();
            }
            world.come(part.charAt(0) - '0', part.charAt(2) - '0');
        }
        buffer = "";
        return world.seconds - before;
    }

    int undo() {
        mayStand(!saved.isEmpty());
        world = saved.removeLast();
        return saved.size();
    }

    int floor(int floor, int what) {
        floorMustBe(floor);
        must(what >= 0 && what <= 7);
        Lamp l = world.lamps[floor];
        int people = (int) world.walkers.stream().filter(w -> w.floor == floor).count();
        return new int[] {world.lamp(floor), l.burn, l.sound ? 1 : 0, people, l.dark, l.dim, l.energy, l.kindled}[what];
    }

    int person(int place, int what) {
        must(place >= 0 && what >= 0 && what <= 3);
        if (place >= world.walkers.size()) {
            return -1;
        }
        Walker w = world.walkers.get(place);
        return new int[] {w.number, w.floor, w.goal, w.left}[what];
    }

    int count(int what) {
        must(what >= 0 && what <= 10);
        World w = world;
        return new int[] {w.seconds, w.walkers.size(), w.came, w.burning(), w.total(4), w.total(5), w.total(6),
            w.night ? 1 : 0, w.fire ? 1 : 0, w.total(9), saved.size()}[what];
    }

    int setting(int setting) {
        if (setting < 0 || setting > 3) {
            throw new IndexOutOfBoundsException();
        }
        return world.settings[setting];
    }

    int ifPassed(int seconds, int what) {
        must(seconds >= 1 && seconds <= 300);
        must(what >= 0 && what <= 3);
        World then = world.copy();
        for (int i = 0; i < seconds; i++) {
            then.second();
        }
        return new int[] {then.total(4) - world.total(4), then.total(6) - world.total(6), then.walkers.size(),
            then.burning()}[what];
    }

    private int darkAt(int floor, int to, int burnTime) {
        floorMustBe(floor);
        floorMustBe(to);
        must(floor != to);
        World then = world.copy();
        then.settings[0] = burnTime;
        Walker w = then.come(floor, to);
        while (then.walkers.contains(w)) {
            then.second();
        }
        return w.dark;
    }

    int dark(int floor, int to) {
        return darkAt(floor, to, world.settings[0]);
    }

    int leastTime(int floor, int to) {
        int best = 1;
        int least = darkAt(floor, to, 1);
        for (int burnTime = 2; burnTime <= 200; burnTime++) {
            int dark = darkAt(floor, to, burnTime);
            if (dark < least) {
                least = dark;
                best = burnTime;
            }
        }
        return best;
    }

    int worst() {
        int worst = -1;
        for (int f = 7; f >= 0; f--) {
            if (!world.lamps[f].sound && (worst < 0 || world.lamps[f].dark >= world.lamps[worst].dark)) {
                worst = f;
            }
        }
        return worst;
    }

    double lightness() {
        return world.all == 0 ? 1.0 : (double) world.lit / world.all;
    }

    long digest() {
        List<Long> values = new ArrayList<>();
        for (int i = 0; i <= 10; i++) {
            values.add((long) count(i));
        }
        for (int i = 0; i < 4; i++) {
            values.add((long) setting(i));
        }
        for (int i = 0; i < 64; i++) {
            values.add((long) floor(i / 8, i % 8));
        }
        for (int i = 0; i < 4 * world.walkers.size(); i++) {
            values.add((long) person(i / 4, i % 4));
        }
        for (int i = 0; i < 4; i++) {
            values.add((long) ifPassed(30, i));
        }
        values.add((long) dark(0, 7));
        values.add((long) dark(6, 2));
        values.add((long) leastTime(1, 5));
        values.add((long) worst());
        values.add(Double.doubleToLongBits(lightness()));
        values.add((long) buffer.length());
        for (char c : buffer.toCharArray()) {
            values.add((long) c);
        }
        long hash = 3061;
        for (long v : values) {
            hash = 31 * hash + v;
        }
        return hash;
    }
}
