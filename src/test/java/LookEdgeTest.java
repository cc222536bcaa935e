/** The edges of promises 10 to 12, 14 to 18, 22 and 23, sentence by sentence: the buffer, undo, and looks. */
public final class LookEdgeTest {
    private static final Check check = new Check();
    private static final String FULL = "0>1;1>2;2>3;3>4;4>5;5>6;6>7;7<6;6<5;5<4;4<3;3<2;2<1;1<0;0>7;";

    public static void main(String[] args) {
        buffer();
        undo();
        floor();
        personAndCount();
        settingAndWorst();
        lightness();
        check.sentence("---- looks; nothing is changed.", LookEdgeTest::nothingIsChanged);
        check.end("LookEdgeTest");
    }

    private static void buffer() {
        check.sentence("P10: Appends a character to the buffer. code: the character code, 33 to 126",
            LookEdgeTest::appendCodes);
        check.sentence("P10: Returns the new length of the buffer.", LookEdgeTest::appendAnswers);
        check.sentence("P10: Throws IllegalArgumentException if code is not 33 to 126", LookEdgeTest::appendRefuses);
        check.sentence("P10: Throws IllegalStateException if the buffer has 60 characters", LookEdgeTest::appendFull);
        check.sentence("P11: Clears the buffer.", LookEdgeTest::clearClears);
        check.sentence("P11: Returns the length that it had.", LookEdgeTest::clearAnswers);
        check.sentence("P12: Returns the index of the first character that is a syntax error;",
            LookEdgeTest::errorAnswers);
        check.sentence("P12: the length of the buffer if there is none.", LookEdgeTest::noError);
    }

    private static void appendCodes() {
        for (int code = 33; code <= 126; code++) {
            StairLight x = new StairLight();
            check.equal("code " + code, x.append(code), 1);
            check.equal("it stands in the buffer: " + code, x.digest(), Scene.digestOf(x, "" + (char) code));
        }
    }

    private static void appendAnswers() {
        StairLight x = new StairLight();
        for (int length = 1; length <= 60; length++) {
            check.equal("length", x.append(33 + length), length);
        }
        x.clearBuffer();
        check.equal("the first anew", x.append(126), 1);
        x.press(0);
        x.undo();
        check.equal("the second, whatever is undone", x.append(126), 2);
    }

    private static void appendRefuses() {
        StairLight x = Scene.busy();
        int[] codes = {32, 127, 0, -1, 10, 128, 255, 256 + 48, 65536 + 48, -65536 + 48, Integer.MIN_VALUE,
            Integer.MAX_VALUE};
        for (int code : codes) {
            check.refused("code " + code, IllegalArgumentException.class, x, () -> x.append(code));
        }
        check.equal("the buffer has its two", x.clearBuffer(), 2);
    }

    private static void appendFull() {
        StairLight x = Scene.withBuffer(FULL.substring(0, 59));
        check.equal("59: one more", x.append('!'), 60);
        check.refused("60: none", IllegalStateException.class, x, () -> x.append('!'));
        check.refused("nor another one", IllegalStateException.class, x, () -> x.append(33));
        check.equal("the 60th stays", x.firstError(), 59);
        check.equal("60", x.clearBuffer(), 60);
        check.equal("then the first", x.append('!'), 1);
    }

    private static void clearClears() {
        StairLight x = Scene.withBuffer("0>0");
        x.clearBuffer();
        check.equal("no error", x.firstError(), 0);
        Scene.type(x, "0>7");
        check.equal("no error in a new text", x.firstError(), 3);
        check.equal("which can come", x.comeAll(), 0);
        StairLight y = Scene.withBuffer("0>7");
        y.clearBuffer();
        check.refused("nobody can come", IllegalArgumentException.class, y, y::comeAll);
    }

    private static void clearAnswers() {
        StairLight x = new StairLight();
        check.equal("empty", x.clearBuffer(), 0);
        for (int length : new int[] {1, 2, 59, 60}) {
            Scene.type(x, FULL.substring(0, length));
            check.equal("length", x.clearBuffer(), length);
            check.equal("empty", x.clearBuffer(), 0);
        }
    }

    private static void errorAnswers() {
        for (int place = 0; place < 60; place++) {
            String text = FULL.substring(0, place) + "!" + FULL.substring(place + 1);
            check.equal("error at " + place, Scene.withBuffer(text).firstError(), place);
            check.equal("at the end", Scene.withBuffer(text.substring(0, place + 1)).firstError(), place);
        }
    }

    private static void noError() {
        StairLight x = new StairLight();
        check.equal("empty", x.firstError(), 0);
        for (int length = 1; length <= 60; length++) {
            x.append(FULL.charAt(length - 1));
            check.equal("length", x.firstError(), length);
        }
    }

    private static void undo() {
        check.sentence("P14: Restores the latest saved state, and drops it.", LookEdgeTest::undoDrops);
        check.sentence("P14: Returns how many saved states are left.", LookEdgeTest::undoAnswers);
        check.sentence("P14: Throws IllegalStateException if there is none", LookEdgeTest::undoNone);
    }

    private static void undoDrops() {
        StairLight x = new StairLight();
        x.set(0, 50);
        x.set(0, 60);
        x.set(0, 70);
        x.undo();
        check.equal("the latest", x.setting(0), 60);
        x.undo();
        check.equal("then the one before", x.setting(0), 50);
        x.set(0, 80);
        check.equal("saved anew", x.count(10), 2);
        x.undo();
        check.equal("the new one", x.setting(0), 50);
        x.undo();
        check.equal("the first", x.setting(0), 20);
    }

    private static void undoAnswers() {
        StairLight x = new StairLight();
        for (int i = 0; i < 9; i++) {
            x.press(i % 8);
        }
        for (int left = 5; left >= 0; left--) {
            check.equal("left", x.undo(), left);
            check.equal("counted", x.count(10), left);
        }
    }

    private static void undoNone() {
        StairLight x = Scene.withBuffer("0");
        check.refused("at first", IllegalStateException.class, x, x::undo);
        x.append('>');
        check.refused("after a call that is not undoable", IllegalStateException.class, x, x::undo);
        check.throwsThat("a wrong call", IndexOutOfBoundsException.class, () -> x.press(8));
        check.refused("after a call that is refused", IllegalStateException.class, x, x::undo);
        for (int i = 0; i < 7; i++) {
            x.press(i);
        }
        for (int i = 0; i < 6; i++) {
            x.undo();
        }
        check.refused("after six", IllegalStateException.class, x, x::undo);
        check.equal("the seventh stays", x.count(3), 1);
    }

    private static void floor() {
        check.sentence("P15: 0: its lamp, 0 to 3; 1: for how many seconds it burns still;", LookEdgeTest::floorLamp);
        check.sentence("P15: 2: 1 if its sensor is sound, otherwise 0; 3: people on it;", LookEdgeTest::floorPeople);
        check.sentence("P15: 4: seconds of people that were dark on it so far; 5: those that were dim;",
            LookEdgeTest::floorDark);
        check.sentence("P15: 6: energy that its lamp used so far;", LookEdgeTest::floorEnergy);
        check.sentence("P15: 7: how often its lamp was switched on while it burned for 0 seconds, so far",
            LookEdgeTest::floorKindled);
        check.sentence("P15: Throws IndexOutOfBoundsException if there is no such floor", LookEdgeTest::floorNone);
        check.sentence("P15: Throws IllegalArgumentException if what is not 0 to 7", LookEdgeTest::floorNoWhat);
    }

    private static void floorLamp() {
        StairLight x = new StairLight();
        x.press(0);
        x.press(7);
        x.pass(14);
        int[][] rows = {{1, 5, 2}, {4, 1, 2}, {1, 0, 0}};
        check.equal("on", x.floor(0, 0), 3);
        for (int[] row : rows) {
            x.pass(row[0]);
            for (int floor : new int[] {0, 7}) {
                check.equal("still", x.floor(floor, 1), row[1]);
                check.equal("lamp", x.floor(floor, 0), row[2]);
            }
        }
        x.night(true);
        check.equal("dim", x.floor(0, 0), 1);
        check.equal("still 0", x.floor(0, 1), 0);
    }

    private static void floorPeople() {
        StairLight x = new StairLight();
        Scene.fill(x);
        check.equal("six", x.floor(0, 3), 6);
        check.equal("none", x.floor(7, 3), 0);
        x.pass(56);
        check.equal("six who are there", x.floor(7, 3), 6);
        check.equal("none", x.floor(0, 3), 0);
        x.pass(1);
        check.equal("who are gone are not on it", x.floor(7, 3), 0);
        check.equal("sound", x.floor(7, 2), 1);
        x.sensor(7, false);
        check.equal("broken", x.floor(7, 2), 0);
        check.equal("the others are not", x.floor(6, 2), 1);
    }

    private static void floorDark() {
        StairLight x = new StairLight();
        Scene.breakAll(x);
        x.set(3, 2);
        x.come(6, 7);
        x.come(6, 7);
        x.come(1, 0);
        x.pass(300);
        int[] due = {1, 1, 0, 0, 0, 0, 2, 2};
        for (int floor = 0; floor < 8; floor++) {
            check.equal("dark on " + floor, x.floor(floor, 4), due[floor]);
            check.equal("none is dim on " + floor, x.floor(floor, 5), 0);
        }
        x.night(true);
        x.come(6, 7);
        x.pass(300);
        check.equal("dark as before", x.floor(6, 4), 2);
        check.equal("dim on 6", x.floor(6, 5), 1);
        check.equal("dim on 7", x.floor(7, 5), 1);
        check.equal("none on 5", x.floor(5, 5), 0);
    }

    private static void floorEnergy() {
        StairLight x = new StairLight();
        check.equal("none", x.floor(7, 6), 0);
        x.press(7);
        check.equal("none before a second", x.floor(7, 6), 0);
        x.pass(1);
        check.equal("a second", x.floor(7, 6), 10);
        x.pass(300);
        check.equal("until it was off", x.floor(7, 6), 200);
        check.equal("of its own lamp alone", x.floor(6, 6), 0);
    }

    private static void floorKindled() {
        StairLight x = new StairLight();
        x.set(0, 2);
        x.press(4);
        x.press(4);
        check.equal("at 0 seconds once", x.floor(4, 7), 1);
        x.pass(1);
        x.press(4);
        check.equal("not in its last second", x.floor(4, 7), 1);
        x.pass(2);
        x.press(4);
        check.equal("at 0 seconds again", x.floor(4, 7), 2);
        x.pass(2);
        x.set(3, 60);
        x.come(4, 5);
        x.pass(3);
        check.equal("by a sensor that goes on to see: once more", x.floor(4, 7), 3);
        x.sensor(4, false);
        x.pass(2);
        x.fire(true);
        x.fire(false);
        check.equal("by the end of a fire", x.floor(4, 7), 4);
        x.night(true);
        x.pass(2);
        check.equal("dim", x.floor(4, 0), 1);
        x.press(4);
        check.equal("while dim", x.floor(4, 7), 5);
        x.undo();
        check.equal("undone", x.floor(4, 7), 4);
    }

    private static void floorNone() {
        StairLight x = Scene.busy();
        for (int floor : Scene.NO_FLOORS) {
            for (int what = 0; what < 8; what++) {
                int which = what;
                check.throwsThat("floor " + floor, IndexOutOfBoundsException.class, () -> x.floor(floor, which));
            }
            check.refused("and no what", IndexOutOfBoundsException.class, x, () -> x.floor(floor, -1));
        }
    }

    private static void floorNoWhat() {
        StairLight x = Scene.busy();
        for (int what : new int[] {-1, 8, 9, Integer.MIN_VALUE, Integer.MAX_VALUE}) {
            check.refused("what " + what, IllegalArgumentException.class, x, () -> x.floor(0, what));
            check.refused("what " + what, IllegalArgumentException.class, x, () -> x.floor(7, what));
        }
    }

    private static void personAndCount() {
        check.sentence("P16: Returns something of a person on the stairs, by ascending numbers.",
            LookEdgeTest::personByNumber);
        check.sentence("P16: 3: seconds until the next floor, 0 if the person is there", LookEdgeTest::personThere);
        check.sentence("P16: Returns the number, NONE if there are not so many.", LookEdgeTest::personNone);
        check.sentence("P16: Throws IllegalArgumentException if place is below 0, or what is not 0 to 3",
            LookEdgeTest::personRefuses);
        check.sentence("P17: 0: the seconds that have gone; 1: people on the stairs; 2: people who came so far;",
            LookEdgeTest::countPeople);
        check.sentence("P17: 3: lamps that are on or warn;", LookEdgeTest::countLamps);
        check.sentence("P17: 4: seconds of people that were dark so far; 5: those that were dim; 6: energy so far;",
            LookEdgeTest::countSums);
        check.sentence("P17: 7: 1 if it is night, otherwise 0; 8: 1 if there is a fire, otherwise 0;",
            LookEdgeTest::countRules);
        check.sentence("P17: 9: broken sensors; 10: saved states", LookEdgeTest::countBroken);
        check.sentence("P17: Throws IllegalArgumentException if what is not 0 to 10", LookEdgeTest::countRefuses);
    }

    private static void personByNumber() {
        StairLight x = new StairLight();
        x.set(3, 1);
        x.come(7, 0);
        x.come(3, 4);
        x.come(0, 7);
        x.pass(2);
        x.come(5, 4);
        int[][] rows = {{0, 5, 0, 1}, {2, 2, 7, 1}, {3, 5, 4, 1}};
        for (int place = 0; place < 3; place++) {
            for (int what = 0; what < 4; what++) {
                check.equal("person(" + place + ", " + what + ")", x.person(place, what), rows[place][what]);
            }
        }
    }

    private static void personThere() {
        StairLight x = new StairLight();
        x.set(3, 2);
        x.come(6, 7);
        check.equal("two", x.person(0, 3), 2);
        x.pass(1);
        check.equal("one", x.person(0, 3), 1);
        x.pass(1);
        check.equal("there", x.person(0, 3), 0);
        check.equal("on the floor to go to", x.person(0, 1), x.person(0, 2));
    }

    private static void personNone() {
        StairLight x = new StairLight();
        for (int people = 0; people <= 6; people++) {
            for (int what = 0; what < 4; what++) {
                for (int place : new int[] {people, people + 1, 6, 7, 1000000, Integer.MAX_VALUE}) {
                    check.equal("place " + place + " of " + people, x.person(place, what), StairLight.NONE);
                }
                check.isTrue("the one before is there", people == 0 || x.person(people - 1, what) >= 0);
            }
            if (people < 6) {
                x.come(0, 7);
            }
        }
        x.pass(57);
        check.equal("who is gone is none", x.person(0, 0), StairLight.NONE);
    }

    private static void personRefuses() {
        StairLight x = Scene.busy();
        for (int place : new int[] {-1, -2, Integer.MIN_VALUE}) {
            check.refused("place " + place, IllegalArgumentException.class, x, () -> x.person(place, 0));
            check.refused("and no what", IllegalArgumentException.class, x, () -> x.person(place, 4));
        }
        for (int what : new int[] {-1, 4, Integer.MIN_VALUE, Integer.MAX_VALUE}) {
            check.refused("what " + what, IllegalArgumentException.class, x, () -> x.person(0, what));
            check.refused("of nobody", IllegalArgumentException.class, x, () -> x.person(6, what));
        }
    }

    private static void countPeople() {
        StairLight x = new StairLight();
        check.equal("no second", x.count(0), 0);
        for (int people = 0; people < 6; people++) {
            check.equal("people", x.count(1), people);
            check.equal("came", x.count(2), people);
            x.come(people, 7);
            x.pass(1);
            check.equal("seconds", x.count(0), people + 1);
        }
        check.equal("six", x.count(1), 6);
        x.pass(300);
        check.equal("nobody", x.count(1), 0);
        check.equal("those who are gone came", x.count(2), 6);
        check.equal("seconds", x.count(0), 306);
    }

    private static void countLamps() {
        StairLight x = new StairLight();
        check.equal("none", x.count(3), 0);
        x.night(true);
        check.equal("dim ones do not count", x.count(3), 0);
        for (int floor = 0; floor < 8; floor++) {
            x.press(floor);
            check.equal("pressed", x.count(3), floor + 1);
        }
        x.set(1, 20);
        check.equal("those who warn", x.count(3), 8);
        x.pass(19);
        check.equal("in their last second", x.count(3), 8);
        x.pass(1);
        check.equal("none any more", x.count(3), 0);
        x.fire(true);
        check.equal("all in a fire", x.count(3), 8);
    }

    private static void countSums() {
        StairLight x = new StairLight();
        Scene.breakAll(x);
        x.set(3, 60);
        x.come(0, 7);
        x.come(7, 0);
        x.press(3);
        x.press(4);
        x.pass(3);
        check.equal("dark on the floors 0 and 7", x.count(4), 6);
        check.equal("energy of the lamps 3 and 4", x.count(6), 60);
        x.night(true);
        x.pass(2);
        check.equal("dark as before", x.count(4), 6);
        check.equal("dim on the floors 0 and 7", x.count(5), 4);
        check.equal("energy of all", x.count(6), 60 + 2 * (6 * 3 + 2 * 10));
    }

    private static void countRules() {
        StairLight x = new StairLight();
        for (int round = 0; round < 4; round++) {
            boolean isNight = round % 2 == 1;
            boolean isFire = round >= 2;
            x.night(isNight);
            x.fire(isFire);
            check.equal("night", x.count(7), isNight ? 1 : 0);
            check.equal("fire", x.count(8), isFire ? 1 : 0);
        }
    }

    private static void countBroken() {
        StairLight x = new StairLight();
        for (int floor = 0; floor < 8; floor++) {
            check.equal("broken", x.count(9), floor);
            check.equal("saved", x.count(10), Math.min(floor, 6));
            x.sensor(floor, false);
        }
        check.equal("all are broken", x.count(9), 8);
        x.sensor(0, false);
        check.equal("none twice", x.count(9), 8);
        x.sensor(0, true);
        check.equal("one less", x.count(9), 7);
    }

    private static void countRefuses() {
        StairLight x = Scene.busy();
        for (int what : new int[] {-1, 11, 12, Integer.MIN_VALUE, Integer.MAX_VALUE}) {
            check.refused("what " + what, IllegalArgumentException.class, x, () -> x.count(what));
        }
    }

    private static void settingAndWorst() {
        check.sentence("P18: Throws IndexOutOfBoundsException if there is no such setting",
            LookEdgeTest::settingRefuses);
        check.sentence("P22: Returns of the floors with a broken sensor the one with the most seconds of people that"
            + " were dark on it so far,", LookEdgeTest::worstMost);
        check.sentence("P22: of several the lowest;", LookEdgeTest::worstLowest);
        check.sentence("P22: NONE if none is broken.", LookEdgeTest::worstNone);
    }

    private static void settingRefuses() {
        StairLight x = Scene.busy();
        for (int setting : new int[] {-1, 4, 5, Integer.MIN_VALUE, Integer.MAX_VALUE}) {
            check.refused("setting " + setting, IndexOutOfBoundsException.class, x, () -> x.setting(setting));
        }
        int[] due = {13, 5, 0, 3};
        for (int setting = 0; setting < 4; setting++) {
            check.equal("setting " + setting, x.setting(setting), due[setting]);
        }
    }

    /** Lets somebody stand in the dark on a floor for so many seconds. */
    private static void stand(StairLight x, int floor, int seconds) {
        x.come(floor, floor < 4 ? 7 : 0);
        x.pass(seconds);
        x.turn(x.count(2) - 1, floor);
        x.pass(1);
    }

    private static void worstMost() {
        StairLight x = new StairLight();
        x.set(3, 60);
        x.sensor(0, false);
        x.sensor(5, false);
        x.sensor(7, false);
        stand(x, 7, 2);
        check.equal("2 seconds on 7", x.worst(), 7);
        stand(x, 5, 3);
        check.equal("3 seconds on 5", x.worst(), 5);
        stand(x, 7, 2);
        check.equal("4 seconds on 7", x.worst(), 7);
        stand(x, 0, 9);
        check.equal("9 seconds on 0", x.worst(), 0);
        x.sensor(0, true);
        check.equal("the sensor of 0 is sound: 7", x.worst(), 7);
        x.night(true);
        stand(x, 5, 30);
        check.equal("dim ones do not count", x.worst(), 7);
        check.equal("though there are", x.floor(5, 5), 30);
        x.sensor(0, false);
        check.equal("broken again: so far", x.worst(), 0);
    }

    private static void worstLowest() {
        StairLight x = new StairLight();
        x.set(3, 60);
        Scene.breakAll(x);
        check.equal("all without a second", x.worst(), 0);
        x.sensor(0, true);
        x.sensor(1, true);
        check.equal("of those that are broken", x.worst(), 2);
        stand(x, 6, 2);
        stand(x, 4, 2);
        check.equal("2 seconds on 4 and on 6", x.worst(), 4);
        stand(x, 6, 1);
        check.equal("one more on 6", x.worst(), 6);
        stand(x, 4, 1);
        check.equal("as many on 4", x.worst(), 4);
        x.sensor(4, true);
        check.equal("sound on 4", x.worst(), 6);
    }

    private static void worstNone() {
        StairLight x = new StairLight();
        check.equal("at first", x.worst(), StairLight.NONE);
        x.set(3, 60);
        for (int floor = 0; floor < 8; floor++) {
            x.sensor(floor, false);
            check.equal("one: " + floor, x.worst(), floor);
            stand(x, floor, 1);
            x.sensor(floor, true);
            check.equal("none, though it was dark", x.worst(), StairLight.NONE);
        }
        check.equal("it was", x.count(4), 8);
    }

    private static void lightness() {
        check.sentence("P23: Returns the seconds of people that were neither dark nor dim so far, as a double, divided"
            + " by all seconds of people so far;", LookEdgeTest::lightShare);
        check.sentence("P23: 1.0 without any.", LookEdgeTest::lightWithoutAny);
    }

    private static void lightShare() {
        StairLight x = new StairLight();
        x.set(3, 60);
        x.come(2, 7);
        x.pass(3);
        check.same("all were light", x.lightness(), 1.0);
        x.come(7, 0);
        x.sensor(7, false);
        x.pass(1);
        check.same("one of five was dark", x.lightness(), 4.0 / 5.0);
        x.night(true);
        x.pass(2);
        check.same("one dark, two dim, of nine", x.lightness(), 6.0 / 9.0);
        x.fire(true);
        x.pass(1);
        check.same("two light ones more in a fire", x.lightness(), 8.0 / 11.0);
        StairLight y = new StairLight();
        Scene.breakAll(y);
        y.come(0, 1);
        y.pass(300);
        check.same("all were dark", y.lightness(), 0.0);
        StairLight z = new StairLight();
        Scene.breakAll(z);
        z.night(true);
        z.come(0, 1);
        z.pass(300);
        check.same("all were dim", z.lightness(), 0.0);
    }

    private static void lightWithoutAny() {
        StairLight x = new StairLight();
        check.same("at first", x.lightness(), 1.0);
        x.sensor(0, false);
        x.pass(300);
        check.same("seconds without people", x.lightness(), 1.0);
        x.come(0, 1);
        check.same("people without seconds", x.lightness(), 1.0);
        x.pass(1);
        check.same("one", x.lightness(), 0.0);
        x.undo();
        check.same("undone", x.lightness(), 1.0);
    }

    private static void nothingIsChanged() {
        StairLight full = Scene.withBuffer(FULL);
        Scene.fill(full);
        for (StairLight x : new StairLight[] {new StairLight(), Scene.busy(), full}) {
            long before = x.digest();
            for (int i = 0; i < 64; i++) {
                x.floor(i / 8, i % 8);
            }
            for (int i = 0; i < 28; i++) {
                x.person(i / 4, i % 4);
            }
            for (int what = 0; what <= 10; what++) {
                x.count(what);
            }
            for (int setting = 0; setting < 4; setting++) {
                x.setting(setting);
            }
            check.equal("the digest", x.digest(), before);
        }
    }
}
