/** The edges that the document's "Terms" name, sentence by sentence: floors, lamps, people, a second. */
public final class TermsEdgeTest {
    private static final Check check = new Check();

    public static void main(String[] args) {
        check.sentence("An object is used for at most 512 calls after it has been made;", TermsEdgeTest::manyCalls);
        floorsAndLamps();
        people();
        second();
        settings();
        check.end("TermsEdgeTest");
    }

    private static void manyCalls() {
        StairLight x = new StairLight();
        x.fire(true);
        for (int call = 2; call <= 511; call++) {
            x.pass(300);
        }
        check.equal("call 512, with the most energy", x.count(6), 510 * 300 * 80);
        StairLight y = new StairLight();
        Scene.breakAll(y);
        y.set(3, 60);
        for (int round = 0; round < 62; round++) {
            Scene.fill(y);
            y.pass(300);
            y.pass(121);
        }
        // 9 + 62 * 8 are 505 calls; nobody could be on the stairs for more seconds in them.
        check.equal("call 506, with the most dark seconds", y.count(4), 62 * 6 * 420);
        check.same("call 507", y.lightness(), 0.0);
        check.equal("call 508: who came", y.count(2), 62 * 6);
        check.equal("call 509: nobody is there", y.person(0, 0), StairLight.NONE);
        check.equal("call 510: seconds", y.count(0), 62 * 421);
        check.equal("call 511: the next number", y.come(0, 7), 372);
        check.equal("call 512: turns round", y.turn(372, 0), 7);
    }

    private static void floorsAndLamps() {
        check.sentence("There are 8 floors, numbered from 0, each with a lamp, a sensor and a button.",
            TermsEdgeTest::eightFloors);
        check.sentence("A lamp burns for so many seconds more, 0 to 999, at first 0.", TermsEdgeTest::burning);
        check.sentence("It is off (0) if these are 0 and it is not night,", TermsEdgeTest::off);
        check.sentence("dim (1) if they are 0 and it is night;", TermsEdgeTest::dim);
        check.sentence("otherwise it warns (2), if they are at most setting 1,", TermsEdgeTest::warns);
        check.sentence("or it is on (3).", TermsEdgeTest::isOn);
        check.sentence("While there is a fire all lamps are on, whatever else applies.", TermsEdgeTest::fire);
        check.sentence("To switch a lamp on is to let it burn for at least setting 0 seconds more: if it burns for"
            + " fewer, it burns for so many.", TermsEdgeTest::switchOn);
        check.sentence("A sensor is sound, at first, or broken.", TermsEdgeTest::soundAtFirst);
        check.sentence("A sound one that sees somebody on its floor switches the lamp there on,",
            TermsEdgeTest::soundOnes);
        check.sentence("and, with setting 2 as 1, those of both floors beside it, too", TermsEdgeTest::neighbours);
        check.sentence("(as far as there are).", TermsEdgeTest::neighboursAtTheEnds);
    }

    private static void eightFloors() {
        StairLight x = new StairLight();
        for (int floor = 0; floor < 8; floor++) {
            check.equal("button " + floor, x.press(floor), 0);
            check.equal("sensor " + floor, x.sensor(floor, false), 1);
            check.equal("lamp " + floor, x.floor(floor, 1), 20);
            check.equal("lamps", x.count(3), floor + 1);
            check.equal("broken", x.count(9), floor + 1);
        }
        for (int floor : Scene.NO_FLOORS) {
            check.throwsThat("button " + floor, IndexOutOfBoundsException.class, () -> x.press(floor));
            check.throwsThat("sensor " + floor, IndexOutOfBoundsException.class, () -> x.sensor(floor, true));
            check.throwsThat("lamp " + floor, IndexOutOfBoundsException.class, () -> x.floor(floor, 0));
        }
    }

    private static void burning() {
        StairLight x = new StairLight();
        for (int floor = 0; floor < 8; floor++) {
            check.equal("at first, lamp " + floor, x.floor(floor, 1), 0);
        }
        x.set(0, 200);
        x.press(4);
        x.press(4);
        check.equal("pressed twice", x.floor(4, 1), 200);
        x.pass(199);
        check.equal("the last second", x.floor(4, 1), 1);
        x.pass(1);
        check.equal("after it", x.floor(4, 1), 0);
        x.pass(300);
        check.equal("never below 0", x.floor(4, 1), 0);
    }

    /** What a lamp is that burns for so many seconds, with so many seconds of warning. */
    private static int lamp(int seconds, int warning, boolean isNight, boolean isFire) {
        StairLight x = new StairLight();
        if (seconds > 0) {
            Scene.letBurn(x, 3, seconds);
        }
        x.set(1, warning);
        x.night(isNight);
        x.fire(isFire);
        return x.floor(3, 0);
    }

    private static void off() {
        for (int warning : new int[] {0, 1, 5, 60}) {
            check.equal("0 seconds by day, warning " + warning, lamp(0, warning, false, false), 0);
        }
        StairLight x = new StairLight();
        x.press(3);
        x.pass(20);
        check.equal("burnt down", x.floor(3, 0), 0);
        x.night(true);
        x.night(false);
        check.equal("after the night", x.floor(3, 0), 0);
    }

    private static void dim() {
        for (int warning : new int[] {0, 1, 5, 60}) {
            check.equal("0 seconds at night, warning " + warning, lamp(0, warning, true, false), 1);
            check.isTrue("1 second at night, warning " + warning, lamp(1, warning, true, false) > 1);
        }
    }

    private static void warns() {
        int[][] pairs = {{1, 1}, {1, 60}, {4, 5}, {5, 5}, {60, 60}};
        for (int[] pair : pairs) {
            check.equal(pair[0] + " seconds, warning " + pair[1], lamp(pair[0], pair[1], false, false), 2);
            check.equal(pair[0] + " seconds at night, warning " + pair[1], lamp(pair[0], pair[1], true, false), 2);
        }
    }

    private static void isOn() {
        int[][] pairs = {{1, 0}, {2, 1}, {6, 5}, {61, 60}, {200, 60}};
        for (int[] pair : pairs) {
            check.equal(pair[0] + " seconds, warning " + pair[1], lamp(pair[0], pair[1], false, false), 3);
            check.equal(pair[0] + " seconds at night, warning " + pair[1], lamp(pair[0], pair[1], true, false), 3);
        }
    }

    private static void fire() {
        for (int seconds : new int[] {0, 1, 5, 6, 200}) {
            check.equal(seconds + " seconds by day", lamp(seconds, 5, false, true), 3);
            check.equal(seconds + " seconds at night", lamp(seconds, 5, true, true), 3);
        }
        StairLight x = new StairLight();
        Scene.breakAll(x);
        x.fire(true);
        x.night(true);
        x.set(1, 60);
        check.equal("all of them", x.count(3), 8);
        x.come(0, 7);
        x.pass(300);
        check.equal("nobody is in the dark", x.count(4), 0);
        check.equal("nor in the dim", x.count(5), 0);
        check.equal("all use energy as if on", x.count(6), 24000);
        check.equal("all are on after it", x.count(3), 8);
        x.fire(false);
        x.undo();
        check.equal("and again", x.count(3), 8);
    }

    private static void switchOn() {
        int[][] rows = {{0, 1, 1}, {0, 200, 200}, {20, 1, 20}, {20, 19, 20}, {20, 20, 20}, {20, 21, 21}, {20, 200, 200}};
        for (int[] row : rows) {
            String title = row[0] + " seconds, setting 0 is " + row[1];
            StairLight x = lampFor(row[0], row[1]);
            x.press(6);
            check.equal(title + ", by a button", x.floor(6, 1), row[2]);
            x = lampFor(row[0], row[1]);
            x.fire(true);
            x.fire(false);
            check.equal(title + ", by the end of a fire", x.floor(6, 1), row[2]);
            x = lampFor(row[0], row[1]);
            x.come(6, 7);
            x.pass(1);
            check.equal(title + ", by a sensor, a second ago", x.floor(6, 1), row[2] - 1);
            x = lampFor(row[0], row[1]);
            x.set(2, 1);
            x.come(5, 0);
            x.pass(1);
            check.equal(title + ", by the sensor beside it, a second ago", x.floor(6, 1), row[2] - 1);
        }
    }

    private static StairLight lampFor(int seconds, int burnTime) {
        StairLight x = new StairLight();
        if (seconds > 0) {
            Scene.letBurn(x, 6, seconds);
        }
        x.set(0, burnTime);
        return x;
    }

    private static void soundAtFirst() {
        StairLight x = new StairLight();
        for (int floor = 0; floor < 8; floor++) {
            check.equal("sensor " + floor, x.floor(floor, 2), 1);
        }
        check.equal("broken ones", x.count(9), 0);
    }

    /** For how long each lamp burns after a second with somebody on a floor. */
    private static void rowAfterASecond(String title, int floor, boolean isSound, int neighbours, int... lit) {
        StairLight x = new StairLight();
        x.sensor(floor, isSound);
        x.set(2, neighbours);
        x.come(floor, floor < 4 ? 7 : 0);
        x.pass(1);
        for (int other = 0; other < 8; other++) {
            int due = 0;
            for (int one : lit) {
                due = one == other ? 1 : due;
            }
            check.equal(title + ": lamp " + other + " burns for", x.floor(other, 1), 19 * due);
            check.equal(title + ": lamp " + other + " was switched on", x.floor(other, 7), due);
        }
    }

    private static void soundOnes() {
        for (int floor = 0; floor < 8; floor++) {
            rowAfterASecond("a sound sensor " + floor, floor, true, 0, floor);
            rowAfterASecond("a broken sensor " + floor, floor, false, 0);
        }
        StairLight x = new StairLight();
        x.pass(1);
        check.equal("they see nobody: no lamp burns", x.count(3), 0);
    }

    private static void neighbours() {
        for (int floor = 1; floor < 7; floor++) {
            rowAfterASecond("a sound sensor " + floor, floor, true, 1, floor - 1, floor, floor + 1);
            rowAfterASecond("a broken sensor " + floor, floor, false, 1);
        }
        StairLight x = new StairLight();
        x.set(2, 1);
        x.sensor(2, false);
        x.sensor(4, false);
        x.come(3, 7);
        x.pass(1);
        check.equal("lamps beside it burn, though their sensors are broken", x.count(3), 3);
        Scene.letBurn(x, 2, 30);
        x.pass(1);
        check.equal("one beside it that burns for longer goes on so", x.floor(2, 1), 29);
        check.equal("and was not at 0", x.floor(2, 7), 1);
    }

    private static void neighboursAtTheEnds() {
        rowAfterASecond("the lowest floor", 0, true, 1, 0, 1);
        rowAfterASecond("the highest floor", 7, true, 1, 6, 7);
    }

    private static void people() {
        check.sentence("There are at most 6 people on the stairs,", TermsEdgeTest::atMostSix);
        check.sentence("numbered from 0 in the order in which they came, also those that are gone.",
            TermsEdgeTest::numbers);
        check.sentence("Each is on a floor, and goes to another one, floor by floor:", TermsEdgeTest::floorByFloor);
        check.sentence("who comes has setting 3 seconds to go until the next floor.", TermsEdgeTest::secondsToGo);
    }

    private static void atMostSix() {
        StairLight x = new StairLight();
        Scene.fill(x);
        check.equal("six", x.count(1), 6);
        check.throwsThat("a seventh", IllegalStateException.class, () -> x.come(3, 4));
        check.equal("six still", x.count(1), 6);
        check.equal("six came", x.count(2), 6);
        x.turn(2, 1);
        Scene.type(x, "0>7");
        x.comeAll();
        check.equal("one came by a text when one was gone: six", x.count(1), 6);
        check.throwsThat("a seventh after it", IllegalStateException.class, () -> x.come(3, 4));
    }

    private static void numbers() {
        StairLight x = new StairLight();
        x.set(3, 1);
        for (int round = 0; round < 4; round++) {
            for (int place = 0; place < 6; place++) {
                check.equal("who came", x.come(place, place + 1), 6 * round + place);
            }
            for (int place = 0; place < 6; place++) {
                check.equal("the number at place " + place, x.person(place, 0), 6 * round + place);
            }
            x.pass(2);
            check.equal("all are gone", x.count(1), 0);
        }
        check.equal("the gone ones count", x.count(2), 24);
    }

    private static void floorByFloor() {
        StairLight x = new StairLight();
        x.set(3, 1);
        x.come(0, 7);
        x.come(7, 0);
        for (int second = 0; second <= 7; second++) {
            check.equal("up, after " + second, x.person(0, 1), second);
            check.equal("down, after " + second, x.person(1, 1), 7 - second);
            x.pass(1);
        }
        check.equal("both are gone", x.count(1), 0);
    }

    private static void secondsToGo() {
        for (int seconds : new int[] {1, 2, 8, 60}) {
            StairLight x = new StairLight();
            x.set(3, seconds);
            x.come(4, 5);
            x.come(4, 0);
            check.equal("up", x.person(0, 3), seconds);
            check.equal("down", x.person(1, 3), seconds);
        }
    }

    private static void second() {
        check.sentence("Each person, by ascending numbers: who is at the floor to go to is gone;", TermsEdgeTest::gone);
        check.sentence("another one has one second less to go until the next floor,", TermsEdgeTest::oneSecondLess);
        check.sentence("and with none to go then is on the next floor towards the floor to go to,",
            TermsEdgeTest::nextFloor);
        check.sentence("and, if this is not that floor, has setting 3 seconds to go anew.", TermsEdgeTest::anew);
        check.sentence("The sound sensors look, from the floor 0 on: where there is somebody, they switch lamps on.",
            TermsEdgeTest::sensorsLook);
        check.sentence("For each person on the stairs the second is dark if the lamp of the floor is off,",
            TermsEdgeTest::darkSecond);
        check.sentence("and dim if it is dim.", TermsEdgeTest::dimSecond);
        check.sentence("Each lamp: energy is used: 10 if it is on or warns, 3 if it is dim;", TermsEdgeTest::energy);
        check.sentence("then it burns for one second less, if it does at all.", TermsEdgeTest::burnsDown);
        check.sentence("Then the second has gone.", TermsEdgeTest::secondHasGone);
    }

    private static void gone() {
        StairLight x = new StairLight();
        x.set(3, 1);
        x.come(0, 1);
        x.come(0, 7);
        x.come(2, 1);
        x.come(7, 0);
        x.come(6, 5);
        x.pass(1);
        check.equal("who got there is there still", x.count(1), 5);
        x.pass(1);
        check.equal("and is gone with the next second", x.count(1), 2);
        check.equal("the first who stays", x.person(0, 0), 1);
        check.equal("the second who stays", x.person(1, 0), 3);
        check.equal("nobody else", x.person(2, 0), StairLight.NONE);
        check.equal("those who stay went on", x.person(0, 1), 2);
        check.equal("both of them", x.person(1, 1), 5);
        StairLight y = new StairLight();
        y.set(3, 1);
        for (int i = 0; i < 6; i++) {
            y.come(3, 4);
        }
        y.pass(2);
        check.equal("all six at once", y.count(1), 0);
        y.pass(1);
        check.equal("nobody is there to be gone", y.count(1), 0);
    }

    private static void oneSecondLess() {
        StairLight x = new StairLight();
        x.set(3, 60);
        x.come(1, 2);
        for (int second = 1; second < 60; second++) {
            x.pass(1);
            check.equal("to go after " + second, x.person(0, 3), 60 - second);
            check.equal("on the floor still", x.person(0, 1), 1);
        }
    }

    private static void nextFloor() {
        StairLight x = new StairLight();
        x.come(6, 7);
        x.come(1, 0);
        x.pass(7);
        check.equal("one second to go: not yet", x.person(0, 1), 6);
        check.equal("nor down", x.person(1, 1), 1);
        x.pass(1);
        check.equal("none: up", x.person(0, 1), 7);
        check.equal("none: down", x.person(1, 1), 0);
        check.equal("there", x.person(0, 3), 0);
        check.equal("there, too", x.person(1, 3), 0);
    }

    private static void anew() {
        StairLight x = new StairLight();
        x.come(0, 2);
        x.set(3, 60);
        x.pass(8);
        check.equal("not there: setting 3 as it is then", x.person(0, 3), 60);
        x.set(3, 1);
        x.pass(60);
        check.equal("there: none to go", x.person(0, 3), 0);
        check.equal("on the floor", x.person(0, 1), 2);
        StairLight y = new StairLight();
        y.set(3, 1);
        y.come(7, 5);
        y.pass(1);
        check.equal("one second a floor", y.person(0, 3), 1);
    }

    private static void sensorsLook() {
        StairLight x = new StairLight();
        x.set(3, 1);
        x.come(3, 4);
        x.pass(1);
        check.equal("they look when people have walked: the floor that was left", x.floor(3, 7), 0);
        check.equal("the floor that was come to", x.floor(4, 1), 19);
        x.pass(1);
        check.equal("who is gone is not seen", x.floor(4, 1), 18);
        StairLight y = new StairLight();
        y.set(2, 1);
        y.set(0, 1);
        y.come(2, 7);
        y.come(3, 0);
        y.pass(1);
        for (int floor = 0; floor < 8; floor++) {
            int due = floor >= 1 && floor <= 4 ? 1 : 0;
            check.equal("two who see the same lamps: " + floor, y.floor(floor, 7), due);
        }
    }

    private static void darkSecond() {
        StairLight x = new StairLight();
        Scene.breakAll(x);
        x.pass(5);
        check.equal("nobody: none is dark", x.count(4), 0);
        x.set(3, 60);
        for (int i = 0; i < 3; i++) {
            x.come(2, 7);
        }
        x.press(2);
        check.equal("the lamp is on, then warns, to its last second", x.pass(20), 0);
        check.equal("it is off now", x.floor(2, 0), 0);
        check.equal("dark for each of three", x.pass(1), 3);
        check.equal("on their floor", x.floor(2, 4), 3);
        StairLight y = new StairLight();
        Scene.breakAll(y);
        y.set(3, 1);
        y.come(3, 4);
        y.press(3);
        check.equal("the floor is the one that was come to", y.pass(1), 1);
        check.equal("that one is dark", y.floor(4, 4), 1);
        check.equal("who is gone is not in the dark", y.pass(1), 0);
    }

    private static void dimSecond() {
        StairLight x = new StairLight();
        Scene.breakAll(x);
        x.night(true);
        x.pass(5);
        check.equal("nobody: none is dim", x.count(5), 0);
        x.set(3, 60);
        x.come(2, 7);
        x.come(2, 0);
        x.press(2);
        x.pass(20);
        check.equal("the lamp is on, then warns, to its last second", x.count(5), 0);
        check.equal("dim is not dark", x.pass(1), 0);
        check.equal("dim for each of two", x.count(5), 2);
        check.equal("on their floor", x.floor(2, 5), 2);
        check.equal("none is dark", x.count(4), 0);
    }

    private static void energy() {
        StairLight x = new StairLight();
        x.pass(1);
        check.equal("off: none", x.count(6), 0);
        x.set(0, 1);
        x.set(1, 0);
        x.press(0);
        x.pass(2);
        check.equal("on for its last second, then off", x.floor(0, 6), 10);
        x.set(1, 60);
        x.press(1);
        x.pass(2);
        check.equal("warns for its last second, then off", x.floor(1, 6), 10);
        x.night(true);
        x.press(2);
        x.pass(2);
        check.equal("warns at night, then is dim", x.floor(2, 6), 13);
        check.equal("dim twice", x.floor(3, 6), 6);
        x.fire(true);
        x.pass(1);
        check.equal("on in a fire", x.floor(3, 6), 16);
    }

    private static void burnsDown() {
        StairLight x = new StairLight();
        x.set(0, 2);
        x.press(5);
        x.pass(1);
        check.equal("2 seconds, then 1", x.floor(5, 1), 1);
        x.pass(1);
        check.equal("1 second, then 0", x.floor(5, 1), 0);
        x.pass(1);
        check.equal("0 seconds stay 0", x.floor(5, 1), 0);
        x.night(true);
        x.pass(1);
        check.equal("dim: 0 stay 0", x.floor(5, 1), 0);
        x.fire(true);
        x.press(5);
        x.pass(3);
        check.equal("in a fire, too: 0 stay 0", x.floor(5, 1), 0);
    }

    private static void secondHasGone() {
        StairLight x = new StairLight();
        check.equal("none", x.count(0), 0);
        x.pass(1);
        check.equal("one", x.count(0), 1);
        x.pass(300);
        check.equal("301", x.count(0), 301);
    }

    private static void settings() {
        check.sentence("0: how long lamps burn, 1 to 200, at first 20;", () -> setting(0, 1, 200, 20));
        check.sentence("1: the seconds of warning, 0 to 60, at first 5;", () -> setting(1, 0, 60, 5));
        check.sentence("2: 1 if sensors switch neighbours on, otherwise 0, at first 0;", () -> setting(2, 0, 1, 0));
        check.sentence("3: seconds for a floor, 1 to 60, at first 8.", () -> setting(3, 1, 60, 8));
    }

    private static void setting(int which, int least, int greatest, int first) {
        StairLight x = new StairLight();
        check.equal("at first", x.setting(which), first);
        for (int value : new int[] {least - 1, greatest + 1, -1, 255, Integer.MIN_VALUE, Integer.MAX_VALUE}) {
            check.throwsThat("the value " + value, IllegalArgumentException.class, () -> x.set(which, value));
            check.equal("it stays", x.setting(which), first);
        }
        x.set(which, least);
        check.equal("the least", x.setting(which), least);
        x.set(which, greatest);
        check.equal("the greatest", x.setting(which), greatest);
    }
}
