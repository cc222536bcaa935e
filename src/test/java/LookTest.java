/** Promises 15 to 18, and 22 and 23: what can be looked at, without a change. */
public final class LookTest {
    private static final Check check = new Check();

    public static void main(String[] args) {
        floorAnswers();
        floorRefuses();
        personAnswers();
        personRefuses();
        countAnswers();
        countRefuses();
        settingAnswers();
        settingRefuses();
        worstAnswers();
        lightnessAnswers();
        looksChangeNothing();
        check.end("LookTest");
    }

    /** Floor 2 burns, floor 3 is dark and then dim; two people, of whom one is gone. */
    private static StairLight stairs() {
        StairLight x = new StairLight();
        x.set(3, 3);
        x.sensor(3, false);
        x.come(2, 4);
        x.come(2, 1);
        x.pass(4);
        x.night(true);
        x.pass(1);
        return x;
    }

    private static void floorRow(StairLight x, int floor, int... due) {
        for (int what = 0; what < 8; what++) {
            check.equal("P15 floor(" + floor + ", " + what + ")", x.floor(floor, what), due[what]);
        }
    }

    private static void floorAnswers() {
        StairLight x = stairs();
        floorRow(x, 0, 1, 0, 1, 0, 0, 0, 3, 0);
        floorRow(x, 1, 3, 17, 1, 0, 0, 0, 30, 1);
        floorRow(x, 2, 3, 16, 1, 0, 0, 0, 50, 1);
        floorRow(x, 3, 1, 0, 0, 1, 2, 1, 3, 0);
        floorRow(x, 7, 1, 0, 1, 0, 0, 0, 3, 0);
        x.set(1, 16);
        check.equal("P15 warns", x.floor(2, 0), 2);
        check.equal("P15 is on", x.floor(1, 0), 3);
        x.come(3, 0);
        x.come(3, 0);
        check.equal("P15 people on it", x.floor(3, 3), 3);
        x.night(false);
        check.equal("P15 off", x.floor(0, 0), 0);
    }

    private static void floorRefuses() {
        StairLight x = stairs();
        for (int floor : Scene.NO_FLOORS) {
            check.refused("P15 floor " + floor, IndexOutOfBoundsException.class, x, () -> x.floor(floor, 0));
            check.refused("P15 floor, and what", IndexOutOfBoundsException.class, x, () -> x.floor(floor, 8));
        }
        for (int what : Scene.NO_FLOORS) {
            check.refused("P15 what " + what, IllegalArgumentException.class, x, () -> x.floor(0, what));
        }
    }

    private static void personAnswers() {
        StairLight x = stairs();
        int[] due = {0, 3, 4, 1};
        for (int what = 0; what < 4; what++) {
            check.equal("P16 person(0, " + what + ")", x.person(0, what), due[what]);
            check.equal("P16 the other one is gone", x.person(1, what), StairLight.NONE);
            check.equal("P16 a place far off", x.person(Integer.MAX_VALUE, what), StairLight.NONE);
            check.equal("P16 the seventh place", x.person(6, what), StairLight.NONE);
        }
        for (int i = 0; i < 5; i++) {
            x.come(5, 6);
        }
        check.equal("P16 by ascending numbers", x.person(5, 0), 6);
        check.equal("P16 no seventh", x.person(6, 0), StairLight.NONE);
        x.pass(1);
        check.equal("P16 0 seconds for who is there", x.person(0, 3), 0);
        check.equal("P16 the goal", x.person(0, 1), 4);
    }

    private static void personRefuses() {
        StairLight x = stairs();
        for (int what : new int[] {-1, 4, Integer.MIN_VALUE, Integer.MAX_VALUE}) {
            check.refused("P16 what " + what, IllegalArgumentException.class, x, () -> x.person(0, what));
            check.refused("P16 what, without a person", IllegalArgumentException.class, x, () -> x.person(5, what));
        }
        check.refused("P16 place -1", IllegalArgumentException.class, x, () -> x.person(-1, 0));
        check.refused("P16 far below", IllegalArgumentException.class, x, () -> x.person(Integer.MIN_VALUE, 0));
    }

    private static void countAnswers() {
        StairLight x = stairs();
        // Energy by day: floor 1 burns in seconds 3 to 5, floor 2 in all 5; at night six lamps are dim for a second.
        int[] due = {5, 1, 2, 2, 2, 1, 80 + 18, 1, 0, 1, 6};
        for (int what = 0; what <= 10; what++) {
            check.equal("P17 count(" + what + ")", x.count(what), due[what]);
        }
        x.fire(true);
        check.equal("P17 fire", x.count(8), 1);
        check.equal("P17 all burn", x.count(3), 8);
        check.equal("P17 not more than 6 states", x.count(10), 6);
        x.set(1, 60);
        x.fire(false);
        check.equal("P17 who warn count", x.count(3), 8);
        x.undo();
        check.equal("P17 one is dropped", x.count(10), 5);
    }

    private static void countRefuses() {
        StairLight x = stairs();
        for (int what : new int[] {-1, 11, Integer.MIN_VALUE, Integer.MAX_VALUE}) {
            check.refused("P17 count(" + what + ")", IllegalArgumentException.class, x, () -> x.count(what));
        }
    }

    private static void settingAnswers() {
        StairLight x = new StairLight();
        int[] first = {20, 5, 0, 8};
        int[] then = {111, 33, 1, 44};
        for (int setting = 0; setting < 4; setting++) {
            check.equal("P18 at first", x.setting(setting), first[setting]);
            x.set(setting, then[setting]);
            check.equal("P18 then", x.setting(setting), then[setting]);
        }
    }

    private static void settingRefuses() {
        StairLight x = new StairLight();
        for (int setting : new int[] {-1, 4, Integer.MIN_VALUE, Integer.MAX_VALUE}) {
            check.refused("P18 setting(" + setting + ")", IndexOutOfBoundsException.class, x, () -> x.setting(setting));
        }
    }

    private static void worstAnswers() {
        StairLight x = new StairLight();
        check.equal("P22 none is broken", x.worst(), StairLight.NONE);
        x.sensor(6, false);
        check.equal("P22 broken, without a dark second", x.worst(), 6);
        x.sensor(3, false);
        check.equal("P22 of several the lowest", x.worst(), 3);
        x.come(6, 5);
        x.pass(2);
        check.equal("P22 the most seconds", x.worst(), 6);
        x.come(3, 2);
        x.pass(2);
        check.equal("P22 more", x.worst(), 6);
        x.pass(2);
        check.equal("P22 more still", x.worst(), 6);
        x.pass(2);
        check.equal("P22 seconds on 3 are not more", x.floor(3, 4), 6);
        check.equal("P22 than those on 6", x.floor(6, 4), 7);
        x.sensor(6, true);
        check.equal("P22 sound ones do not count", x.worst(), 3);
        x.sensor(6, false);
        x.pass(1);
        check.equal("P22 as many: the lowest", x.worst(), 3);
        x.sensor(3, true);
        x.sensor(6, true);
        check.equal("P22 none is broken any more", x.worst(), StairLight.NONE);
        x.sensor(7, false);
        check.equal("P22 the highest floor", x.worst(), 7);
        x.sensor(0, false);
        check.equal("P22 the lowest floor", x.worst(), 0);
    }

    private static void lightnessAnswers() {
        StairLight x = new StairLight();
        x.pass(5);
        check.same("P23 without people", x.lightness(), 1.0);
        x.sensor(0, false);
        x.come(0, 7);
        check.same("P23 without seconds", x.lightness(), 1.0);
        x.pass(1);
        check.same("P23 all dark", x.lightness(), 0.0);
        x.night(true);
        x.pass(1);
        check.same("P23 dark and dim", x.lightness(), 0.0);
        x.press(0);
        x.pass(1);
        check.same("P23 one of three", x.lightness(), 1.0 / 3.0);
        x.pass(4);
        check.same("P23 five of seven", x.lightness(), 5.0 / 7.0);
    }

    private static void looksChangeNothing() {
        StairLight x = stairs();
        long before = x.digest();
        for (int i = 0; i < 64; i++) {
            x.floor(i / 8, i % 8);
        }
        for (int i = 0; i < 24; i++) {
            x.person(i / 4, i % 4);
        }
        x.worst();
        x.lightness();
        x.firstError();
        check.isTrue("looks change nothing", x.digest() == before);
        check.equal("looks save nothing", x.count(10), 6);
    }
}
