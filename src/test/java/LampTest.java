/** Promises 4 to 9: lamps, sensors, rules, settings, and seconds that pass. */
public final class LampTest {
    private static final Check check = new Check();

    public static void main(String[] args) {
        pressAnswers();
        pressRefuses();
        lampsWarn();
        sensorAnswers();
        sensorsSeeNeighbours();
        sensorRefuses();
        nightAnswers();
        fireAnswers();
        setAnswers();
        setRefuses();
        passAnswers();
        passRefuses();
        check.end("LampTest");
    }

    private static void pressAnswers() {
        StairLight x = new StairLight();
        check.equal("P4 it burned for", x.press(3), 0);
        check.equal("P4 undoable", x.count(10), 1);
        check.equal("P4 burns", x.floor(3, 1), 20);
        check.equal("P4 switched on", x.floor(3, 7), 1);
        x.pass(4);
        check.equal("P4 it burned for less", x.press(3), 16);
        check.equal("P4 burns as long as setting 0", x.floor(3, 1), 20);
        check.equal("P4 was on already", x.floor(3, 7), 1);
        x.set(0, 10);
        check.equal("P4 a smaller setting", x.press(3), 20);
        check.equal("P4 at least: it burns on", x.floor(3, 1), 20);
        check.equal("P4 the others do not burn", x.count(3), 1);
        x.pass(20);
        check.equal("P4 anew", x.press(3), 0);
        check.equal("P4 anew with setting 0", x.floor(3, 1), 10);
        check.equal("P4 switched on twice", x.floor(3, 7), 2);
        x.press(0);
        x.press(7);
        check.equal("P4 the edges burn, too", x.count(3), 3);
    }

    private static void pressRefuses() {
        StairLight x = new StairLight();
        for (int floor : new int[] {-1, 8, Integer.MIN_VALUE, Integer.MAX_VALUE}) {
            check.refused("P4 press(" + floor + ")", IndexOutOfBoundsException.class, x, () -> x.press(floor));
        }
    }

    private static void lampsWarn() {
        StairLight x = new StairLight();
        x.press(2);
        x.pass(14);
        check.equal("6 seconds: on", x.floor(2, 0), 3);
        x.pass(1);
        check.equal("5 seconds: warns", x.floor(2, 0), 2);
        check.equal("who warns burns", x.count(3), 1);
        x.pass(4);
        check.equal("1 second: warns", x.floor(2, 0), 2);
        check.equal("1 second", x.floor(2, 1), 1);
        check.equal("10 a second, warning or not", x.floor(2, 6), 190);
        x.pass(1);
        check.equal("0 seconds: off", x.floor(2, 0), 0);
        check.equal("20 seconds of 10", x.floor(2, 6), 200);
        x.pass(1);
        check.equal("off uses nothing", x.floor(2, 6), 200);
        check.equal("and stays at 0", x.floor(2, 1), 0);
        x.set(1, 0);
        x.press(2);
        x.pass(19);
        check.equal("no seconds of warning", x.floor(2, 0), 3);
    }

    private static void sensorAnswers() {
        StairLight x = new StairLight();
        check.equal("P5 it was sound", x.sensor(4, false), 1);
        check.equal("P5 undoable", x.count(10), 1);
        check.equal("P5 broken", x.floor(4, 2), 0);
        check.equal("P5 broken ones", x.count(9), 1);
        check.equal("P5 it was broken", x.sensor(4, false), 0);
        check.equal("P5 still one", x.count(9), 1);
        check.equal("P5 undoable though nothing changes", x.count(10), 2);
        x.come(4, 3);
        check.equal("P5 a broken one sees nobody", x.pass(3), 3);
        check.equal("P5 made sound", x.sensor(4, true), 0);
        check.equal("P5 sees in the next second", x.floor(4, 1), 0);
        check.equal("P5 then it is not dark", x.pass(1), 0);
        check.equal("P5 burned for a second", x.floor(4, 1), 19);
        check.equal("P5 it was sound again", x.sensor(4, true), 1);
        x.pass(3);
        check.equal("a sensor switches on as long as it sees", x.floor(4, 1), 19);
        check.equal("and that counts once", x.floor(4, 7), 1);
    }

    private static void sensorsSeeNeighbours() {
        StairLight x = new StairLight();
        x.come(0, 7);
        x.come(4, 7);
        x.pass(1);
        check.equal("setting 2 is 0: own floors alone", x.count(3), 2);
        StairLight y = new StairLight();
        y.set(2, 1);
        y.come(0, 7);
        y.come(4, 5);
        y.come(7, 0);
        y.sensor(4, false);
        y.pass(1);
        int[] burning = {19, 19, 0, 0, 0, 0, 19, 19};
        for (int floor = 0; floor < 8; floor++) {
            check.equal("setting 2 is 1: floor " + floor, y.floor(floor, 1), burning[floor]);
            check.equal("switched on: floor " + floor, y.floor(floor, 7), burning[floor] > 0 ? 1 : 0);
        }
        y.sensor(4, true);
        y.sensor(5, false);
        y.pass(1);
        check.equal("a neighbour with a broken sensor burns, too", y.floor(5, 1), 19);
        check.equal("on both sides", y.floor(3, 1), 19);
        check.equal("no further", y.floor(2, 1), 0);
    }

    private static void sensorRefuses() {
        StairLight x = new StairLight();
        for (int floor : new int[] {-1, 8, Integer.MIN_VALUE, Integer.MAX_VALUE}) {
            check.refused("P5 broken, floor " + floor, IndexOutOfBoundsException.class, x, () -> x.sensor(floor, false));
            check.refused("P5 sound, floor " + floor, IndexOutOfBoundsException.class, x, () -> x.sensor(floor, true));
        }
    }

    private static void nightAnswers() {
        StairLight x = new StairLight();
        check.equal("P6 it was day", x.night(true), 0);
        check.equal("P6 undoable", x.count(10), 1);
        check.equal("P6 it is night", x.count(7), 1);
        check.equal("P6 dim", x.floor(5, 0), 1);
        check.equal("P6 dim ones do not count as on", x.count(3), 0);
        x.press(5);
        check.equal("P6 on", x.floor(5, 0), 3);
        check.equal("P6 burned for 0 seconds while dim", x.floor(5, 7), 1);
        check.equal("P6 it was night", x.night(true), 1);
        x.sensor(0, false);
        x.come(0, 1);
        check.equal("P6 dim is not dark", x.pass(2), 0);
        check.equal("P6 dim seconds", x.floor(0, 5), 2);
        check.equal("P6 no dark ones", x.floor(0, 4), 0);
        check.equal("P6 energy of dim lamps: 3", x.floor(0, 6), 6);
        check.equal("P6 of one that is on: 10", x.floor(5, 6), 20);
        check.equal("P6 it was night still", x.night(false), 1);
        check.equal("P6 off", x.floor(0, 0), 0);
        check.equal("P6 then it is dark", x.pass(1), 1);
        check.equal("P6 it was day again", x.night(false), 0);
        check.equal("P6 six states", x.count(10), 6);
    }

    private static void fireAnswers() {
        StairLight x = new StairLight();
        x.night(true);
        x.press(1);
        x.pass(18);
        check.equal("P7 there was none", x.fire(false), 0);
        check.equal("P7 none ended: no lamp is switched on", x.floor(0, 1), 0);
        check.equal("P7 there was none, again", x.fire(true), 0);
        check.equal("P7 undoable", x.count(10), 5);
        check.equal("P7 there is", x.count(8), 1);
        for (int floor = 0; floor < 8; floor++) {
            check.equal("P7 on, night or not", x.floor(floor, 0), 3);
        }
        check.equal("P7 all count", x.count(3), 8);
        check.equal("P7 they burn for as long", x.floor(1, 1), 2);
        check.equal("P7 and those for 0 seconds", x.floor(0, 1), 0);
        x.sensor(0, false);
        x.come(0, 1);
        check.equal("P7 not dark", x.pass(1), 0);
        check.equal("P7 nor dim", x.count(5), 0);
        check.equal("P7 energy: 10", x.floor(7, 6), 18 * 3 + 10);
        check.equal("P7 it burns down in a fire", x.floor(1, 1), 1);
        check.equal("P7 there was one", x.fire(true), 1);
        check.equal("P7 goes on: no lamp is switched on", x.floor(0, 1), 0);
        x.set(0, 7);
        x.press(7);
        x.set(0, 5);
        check.equal("P7 it ends", x.fire(false), 1);
        int[] burning = {5, 5, 5, 5, 5, 5, 5, 7};
        for (int floor = 0; floor < 8; floor++) {
            check.equal("P7 all are switched on: " + floor, x.floor(floor, 1), burning[floor]);
            check.equal("P7 switched on at 0 seconds: " + floor, x.floor(floor, 7), 1);
        }
        check.equal("P7 it had ended", x.fire(false), 0);
    }

    private static void setAnswers() {
        StairLight x = new StairLight();
        int[] first = {20, 5, 0, 8};
        int[] least = {1, 0, 0, 1};
        int[] most = {200, 60, 1, 60};
        for (int setting = 0; setting < 4; setting++) {
            check.equal("P8 the first value of " + setting, x.set(setting, least[setting]), first[setting]);
            check.equal("P8 the least of " + setting, x.set(setting, most[setting]), least[setting]);
            check.equal("P8 the most of " + setting, x.setting(setting), most[setting]);
        }
        check.equal("P8 undoable", x.count(10), 6);
        StairLight y = new StairLight();
        y.press(0);
        y.set(0, 200);
        check.equal("P8 lamps go on burning as they do", y.floor(0, 1), 20);
        y.set(0, 1);
        check.equal("P8 also with less", y.floor(0, 1), 20);
        y.set(1, 20);
        check.equal("P8 warns with setting 1", y.floor(0, 0), 2);
        y.set(1, 19);
        check.equal("P8 and not with one less", y.floor(0, 0), 3);
        y.come(0, 7);
        y.set(3, 1);
        check.equal("P8 people go on as long as they have to", y.person(0, 3), 8);
    }

    private static void setRefuses() {
        StairLight x = new StairLight();
        for (int setting : new int[] {-1, 4, Integer.MIN_VALUE, Integer.MAX_VALUE}) {
            check.refused("P8 set(" + setting + ", 1)", IndexOutOfBoundsException.class, x, () -> x.set(setting, 1));
            check.refused("P8 and no value", IndexOutOfBoundsException.class, x, () -> x.set(setting, -1));
        }
        int[][] wrong = {{0, 0}, {0, 201}, {0, -1}, {1, -1}, {1, 61}, {2, -1}, {2, 2}, {3, 0}, {3, 61}};
        for (int[] pair : wrong) {
            String call = "P8 set(" + pair[0] + ", " + pair[1] + ")";
            check.refused(call, IllegalArgumentException.class, x, () -> x.set(pair[0], pair[1]));
        }
        for (int setting = 0; setting < 4; setting++) {
            int which = setting;
            check.refused("P8 far above", IllegalArgumentException.class, x, () -> x.set(which, Integer.MAX_VALUE));
            check.refused("P8 far below", IllegalArgumentException.class, x, () -> x.set(which, Integer.MIN_VALUE));
        }
    }

    private static void passAnswers() {
        StairLight x = new StairLight();
        x.sensor(0, false);
        x.sensor(1, false);
        x.come(0, 1);
        x.come(0, 1);
        check.equal("P9 both in the dark", x.pass(3), 6);
        check.equal("P9 undoable, as one call", x.count(10), 5);
        check.equal("P9 seconds gone", x.count(0), 3);
        x.press(0);
        check.equal("P9 lit on the floor 0, dark on the floor 1", x.pass(7), 2);
        check.equal("P9 all so far", x.count(4), 8);
        check.equal("P9 on floor 0", x.floor(0, 4), 6);
        check.equal("P9 on floor 1", x.floor(1, 4), 2);
        check.equal("P9 gone in the first step: not dark", x.count(1), 0);
        check.equal("P9 the most", x.pass(300), 0);
        check.equal("P9 the least", x.pass(1), 0);
        check.equal("P9 seconds", x.count(0), 311);
        StairLight y = new StairLight();
        y.sensor(2, false);
        y.set(0, 1);
        y.press(2);
        y.come(2, 3);
        check.equal("P9 the lamp burns in its last second, then not", y.pass(2), 1);
    }

    private static void passRefuses() {
        StairLight x = new StairLight();
        for (int seconds : new int[] {0, -1, 301, Integer.MIN_VALUE, Integer.MAX_VALUE}) {
            check.refused("P9 pass(" + seconds + ")", IllegalArgumentException.class, x, () -> x.pass(seconds));
        }
    }
}
