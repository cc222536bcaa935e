/** The edges of promises 1 to 9 and 13, sentence by sentence: calls that change the stairs. */
public final class CallEdgeTest {
    private static final Check check = new Check();

    public static void main(String[] args) {
        aNewObject();
        come();
        turn();
        pressAndSensor();
        nightAndFire();
        set();
        pass();
        comeAll();
        check.end("CallEdgeTest");
    }

    private static void aNewObject() {
        check.sentence("P1: Creates dark stairs by day, without people, with an empty buffer.",
            CallEdgeTest::darkEmptyStairs);
    }

    private static void darkEmptyStairs() {
        StairLight busy = Scene.busy();
        StairLight x = new StairLight();
        check.equal("it is day", x.count(7), 0);
        check.equal("there is no fire", x.count(8), 0);
        check.equal("no lamp burns", x.count(3), 0);
        check.equal("no sensor is broken", x.count(9), 0);
        check.equal("nobody is there", x.count(1), 0);
        check.equal("nobody came", x.count(2), 0);
        check.equal("no second has gone", x.count(0), 0);
        check.equal("no energy", x.count(6), 0);
        check.equal("no state", x.count(10), 0);
        check.equal("no text", x.clearBuffer(), 0);
        check.isTrue("the other one is another one", !Scene.look(busy).equals(Scene.look(x)));
        x.press(0);
        check.isTrue("which stays as it is", Scene.look(busy).equals(Scene.look(Scene.busy())));
    }

    private static void come() {
        check.sentence("P2: Somebody comes to the stairs; the sensors look in the next second.",
            CallEdgeTest::lookLater);
        check.sentence("P2: floor: 0 to 7 to: 0 to 7, another floor", CallEdgeTest::comeToAnyFloor);
        check.sentence("P2: Returns the number of the person.", CallEdgeTest::comeNumbers);
        check.sentence("P2: Throws IndexOutOfBoundsException if there is no such floor", CallEdgeTest::comeNoFloor);
        check.sentence("P2: Throws IllegalArgumentException if both are the same", CallEdgeTest::comeSame);
        check.sentence("P2: Throws IllegalStateException if there are 6 people on the stairs", CallEdgeTest::comeFull);
    }

    private static void lookLater() {
        StairLight x = new StairLight();
        x.set(3, 60);
        x.come(2, 3);
        check.equal("not yet: the lamp", x.floor(2, 0), 0);
        check.equal("not yet: its seconds", x.floor(2, 1), 0);
        check.equal("not yet: switched on", x.floor(2, 7), 0);
        check.equal("no second has gone", x.count(0), 0);
        check.equal("the person is on the floor", x.floor(2, 3), 1);
        check.equal("the next second is not dark", x.pass(1), 0);
        check.equal("as the lamp is on in it", x.floor(2, 6), 10);
    }

    private static void comeToAnyFloor() {
        for (int floor = 0; floor < 8; floor++) {
            for (int to = 0; to < 8; to++) {
                StairLight x = new StairLight();
                if (floor != to) {
                    check.equal("came", x.come(floor, to), 0);
                    check.equal("from", x.person(0, 1), floor);
                    check.equal("to", x.person(0, 2), to);
                } else {
                    int same = floor;
                    check.throwsThat("the same", IllegalArgumentException.class, () -> x.come(same, same));
                }
            }
        }
    }

    private static void comeNumbers() {
        StairLight x = new StairLight();
        check.equal("the first", x.come(0, 1), 0);
        check.equal("the second", x.come(0, 1), 1);
        x.undo();
        check.equal("the second, when it is undone", x.come(7, 1), 1);
        x.pass(9);
        check.equal("the third, when the first is gone", x.come(0, 1), 2);
    }

    private static void comeNoFloor() {
        StairLight x = Scene.busy();
        for (int floor : Scene.NO_FLOORS) {
            check.refused("from " + floor, IndexOutOfBoundsException.class, x, () -> x.come(floor, 0));
            check.refused("to " + floor, IndexOutOfBoundsException.class, x, () -> x.come(7, floor));
        }
    }

    private static void comeSame() {
        StairLight x = Scene.busy();
        for (int floor = 0; floor < 8; floor++) {
            int same = floor;
            check.refused("twice " + floor, IllegalArgumentException.class, x, () -> x.come(same, same));
        }
    }

    private static void comeFull() {
        StairLight x = new StairLight();
        x.set(3, 1);
        for (int i = 0; i < 5; i++) {
            x.come(0, 7);
        }
        check.equal("five are not too many", x.come(6, 7), 5);
        check.refused("six are", IllegalStateException.class, x, () -> x.come(0, 1));
        x.pass(1);
        check.refused("one is there, and not gone", IllegalStateException.class, x, () -> x.come(0, 1));
        x.pass(1);
        check.equal("gone: five are not", x.come(0, 1), 6);
        check.refused("six again", IllegalStateException.class, x, () -> x.come(0, 1));
        x.undo();
        check.equal("and five, when that is undone", x.come(0, 1), 6);
    }

    private static void turn() {
        check.sentence("P3: Somebody turns round, or goes to another floor.", CallEdgeTest::turnsRound);
        check.sentence("P3: The way to the next floor begins anew", CallEdgeTest::turnAnew);
        check.sentence("P3: (who is at that floor already is there, and has no seconds to go).",
            CallEdgeTest::turnThere);
        check.sentence("P3: person: the number to: 0 to 7", CallEdgeTest::turnNumbers);
        check.sentence("P3: Returns the floor to which the person went.", CallEdgeTest::turnAnswers);
        check.sentence("P3: Throws IndexOutOfBoundsException if there is no such person on the stairs,",
            CallEdgeTest::turnNobody);
        check.sentence("P3: or no such floor", CallEdgeTest::turnNoFloor);
    }

    private static void turnsRound() {
        StairLight x = new StairLight();
        x.set(3, 1);
        x.come(3, 7);
        x.pass(1);
        x.turn(0, 0);
        x.pass(1);
        check.equal("down instead of up", x.person(0, 1), 3);
        x.turn(0, 5);
        x.pass(2);
        check.equal("up again, to a floor that is nearer", x.person(0, 1), 5);
        check.equal("there", x.person(0, 3), 0);
        x.turn(0, 7);
        x.pass(1);
        check.equal("not gone, but on the way", x.person(0, 1), 6);
    }

    private static void turnAnew() {
        StairLight x = new StairLight();
        x.come(3, 7);
        x.pass(7);
        check.equal("one second to go", x.person(0, 3), 1);
        x.turn(0, 7);
        check.equal("anew, to the same floor", x.person(0, 3), 8);
        x.pass(7);
        check.equal("on the floor still", x.person(0, 1), 3);
        x.set(3, 60);
        x.turn(0, 0);
        check.equal("anew with setting 3 as it is now", x.person(0, 3), 60);
        x.set(3, 1);
        x.turn(0, 0);
        check.equal("the least", x.person(0, 3), 1);
    }

    private static void turnThere() {
        StairLight x = new StairLight();
        x.come(3, 7);
        x.pass(5);
        x.turn(0, 3);
        check.equal("on the way: no seconds to go", x.person(0, 3), 0);
        check.equal("on the stairs", x.count(1), 1);
        x.pass(1);
        check.equal("gone in the next second", x.count(1), 0);
        StairLight y = new StairLight();
        y.come(6, 7);
        y.pass(8);
        y.turn(0, 7);
        check.equal("there already: no seconds to go", y.person(0, 3), 0);
        y.turn(0, 6);
        check.equal("back: seconds to go", y.person(0, 3), 8);
        y.turn(0, 7);
        y.pass(1);
        check.equal("gone", y.count(1), 0);
    }

    private static void turnNumbers() {
        StairLight x = new StairLight();
        x.come(0, 1);
        x.come(0, 7);
        x.come(0, 6);
        x.pass(9);
        check.equal("place 0 holds the number 1", x.person(0, 0), 1);
        check.equal("the number 1", x.turn(1, 0), 7);
        check.equal("the number 2", x.turn(2, 7), 6);
        check.equal("place 0 goes to 0", x.person(0, 2), 0);
        check.equal("place 1 goes to 7", x.person(1, 2), 7);
    }

    private static void turnAnswers() {
        StairLight x = new StairLight();
        x.come(7, 0);
        int[] goals = {0, 1, 2, 3, 4, 5, 6, 7, 7, 0};
        for (int i = 1; i < goals.length; i++) {
            check.equal("to " + goals[i], x.turn(0, goals[i]), goals[i - 1]);
        }
    }

    private static void turnNobody() {
        StairLight none = new StairLight();
        check.refused("nobody came", IndexOutOfBoundsException.class, none, () -> none.turn(0, 1));
        StairLight x = new StairLight();
        x.come(0, 1);
        x.come(0, 7);
        x.pass(9);
        check.refused("who is gone", IndexOutOfBoundsException.class, x, () -> x.turn(0, 1));
        for (int person : new int[] {-1, 2, 6, 7, Integer.MIN_VALUE, Integer.MAX_VALUE}) {
            check.refused("number " + person, IndexOutOfBoundsException.class, x, () -> x.turn(person, 1));
        }
        check.equal("who is there", x.turn(1, 1), 7);
    }

    private static void turnNoFloor() {
        StairLight x = Scene.busy();
        for (int floor : Scene.NO_FLOORS) {
            check.refused("to " + floor, IndexOutOfBoundsException.class, x, () -> x.turn(2, floor));
            check.refused("nobody to " + floor, IndexOutOfBoundsException.class, x, () -> x.turn(9, floor));
        }
        check.equal("to the lowest", x.turn(2, 0), 0);
        check.equal("to the highest", x.turn(2, 7), 0);
    }

    private static void pressAndSensor() {
        check.sentence("P4: Presses a button: the lamp of the floor is switched on.", CallEdgeTest::pressSwitchesOn);
        check.sentence("P4: Returns for how many seconds it burned.", CallEdgeTest::pressAnswers);
        check.sentence("P4: Throws IndexOutOfBoundsException if there is no such floor", CallEdgeTest::pressNoFloor);
        check.sentence("P5: Breaks a sensor, or makes it sound.", CallEdgeTest::sensorBreaks);
        check.sentence("P5: Returns 1 if it was, otherwise 0.", CallEdgeTest::sensorAnswers);
        check.sentence("P5: Throws IndexOutOfBoundsException if there is no such floor", CallEdgeTest::sensorNoFloor);
    }

    private static void pressSwitchesOn() {
        for (int floor = 0; floor < 8; floor++) {
            StairLight x = new StairLight();
            x.set(2, 1);
            x.sensor(floor, false);
            x.press(floor);
            check.equal("at once, lamp " + floor, x.floor(floor, 1), 20);
            check.equal("that one alone", x.count(3), 1);
            check.equal("switched on", x.floor(floor, 7), 1);
            x.press(floor);
            check.equal("it burned already", x.floor(floor, 7), 1);
        }
    }

    private static void pressAnswers() {
        StairLight x = new StairLight();
        x.set(0, 200);
        check.equal("0 seconds", x.press(0), 0);
        check.equal("200 seconds", x.press(0), 200);
        x.pass(199);
        check.equal("1 second", x.press(0), 1);
        x.pass(200);
        check.equal("0 seconds again", x.press(0), 0);
        x.pass(300);
        x.night(true);
        check.equal("0 seconds, dim", x.press(0), 0);
        x.pass(300);
        x.fire(true);
        check.equal("0 seconds, in a fire", x.press(0), 0);
    }

    private static void pressNoFloor() {
        StairLight x = Scene.busy();
        for (int floor : Scene.NO_FLOORS) {
            check.refused("floor " + floor, IndexOutOfBoundsException.class, x, () -> x.press(floor));
        }
    }

    private static void sensorBreaks() {
        StairLight x = new StairLight();
        x.set(3, 60);
        x.come(0, 7);
        x.come(7, 0);
        x.sensor(0, false);
        x.pass(1);
        check.equal("broken: sees nobody", x.floor(0, 1), 0);
        check.equal("another one sees", x.floor(7, 1), 19);
        x.sensor(0, true);
        check.equal("made sound: looks in the next second", x.floor(0, 1), 0);
        x.pass(1);
        check.equal("then sees", x.floor(0, 1), 19);
        x.sensor(0, false);
        check.equal("broken: the lamp goes on burning", x.floor(0, 1), 19);
        x.pass(1);
        check.equal("for as long as it does", x.floor(0, 1), 18);
    }

    private static void sensorAnswers() {
        StairLight x = new StairLight();
        for (int floor = 0; floor < 8; floor++) {
            check.equal("sound at first", x.sensor(floor, true), 1);
            check.equal("sound still", x.sensor(floor, false), 1);
            check.equal("broken", x.sensor(floor, false), 0);
            check.equal("broken still", x.sensor(floor, true), 0);
            check.equal("sound again", x.sensor(floor, true), 1);
        }
    }

    private static void sensorNoFloor() {
        StairLight x = Scene.busy();
        for (int floor : Scene.NO_FLOORS) {
            check.refused("breaks " + floor, IndexOutOfBoundsException.class, x, () -> x.sensor(floor, false));
            check.refused("makes sound " + floor, IndexOutOfBoundsException.class, x, () -> x.sensor(floor, true));
        }
    }

    private static void nightAndFire() {
        check.sentence("P6: Lets the night begin or end.", CallEdgeTest::nightBegins);
        check.sentence("P6: Returns 1 if it was, otherwise 0.", CallEdgeTest::nightAnswers);
        check.sentence("P7: Lets a fire begin or end;", CallEdgeTest::fireBegins);
        check.sentence("P7: when one ends that was there, all lamps are switched on.", CallEdgeTest::fireEnds);
        check.sentence("P7: Returns 1 if there was, otherwise 0.", CallEdgeTest::fireAnswers);
    }

    private static void nightBegins() {
        StairLight x = new StairLight();
        x.press(3);
        x.night(true);
        check.equal("dim at once", x.floor(0, 0), 1);
        check.equal("who burns stays on", x.floor(3, 0), 3);
        check.equal("dim ones do not burn", x.count(3), 1);
        check.equal("it is night", x.count(7), 1);
        x.night(false);
        check.equal("off at once", x.floor(0, 0), 0);
        check.equal("who burns stays on by day", x.floor(3, 0), 3);
        check.equal("no lamp is switched on", x.floor(0, 7), 0);
        check.equal("it is day", x.count(7), 0);
    }

    private static void nightAnswers() {
        StairLight x = new StairLight();
        check.equal("day at first", x.night(false), 0);
        check.equal("day still", x.night(true), 0);
        check.equal("night", x.night(true), 1);
        check.equal("night still", x.night(false), 1);
        check.equal("day again", x.night(false), 0);
    }

    private static void fireBegins() {
        StairLight x = new StairLight();
        x.fire(true);
        check.equal("there is one", x.count(8), 1);
        check.equal("all are on", x.count(3), 8);
        for (int floor = 0; floor < 8; floor++) {
            check.equal("though none burns", x.floor(floor, 1), 0);
            check.equal("nor was switched on", x.floor(floor, 7), 0);
        }
        x.fire(false);
        check.equal("there is none", x.count(8), 0);
    }

    private static void fireEnds() {
        StairLight x = new StairLight();
        Scene.letBurn(x, 0, 19);
        Scene.letBurn(x, 1, 20);
        Scene.letBurn(x, 2, 21);
        x.fire(false);
        check.equal("none was there: no lamp is switched on", x.count(3), 3);
        x.fire(true);
        x.fire(true);
        check.equal("one goes on: no lamp is switched on", x.floor(7, 1), 0);
        x.fire(false);
        int[] due = {20, 20, 21, 20, 20, 20, 20, 20};
        for (int floor = 0; floor < 8; floor++) {
            check.equal("it ends: lamp " + floor, x.floor(floor, 1), due[floor]);
            check.equal("switched on at 0 seconds once, lamp " + floor, x.floor(floor, 7), 1);
        }
        x.pass(1);
        x.fire(false);
        check.equal("it had ended: no lamp is switched on again", x.floor(0, 1), 19);
    }

    private static void fireAnswers() {
        StairLight x = new StairLight();
        check.equal("none at first", x.fire(false), 0);
        check.equal("none still", x.fire(true), 0);
        check.equal("one", x.fire(true), 1);
        check.equal("one still", x.fire(false), 1);
        check.equal("none again", x.fire(false), 0);
    }

    private static void set() {
        check.sentence("P8: (lamps go on burning as they do,", CallEdgeTest::lampsGoOn);
        check.sentence("P8: people go on as long as they have to, until the next floor)", CallEdgeTest::peopleGoOn);
        check.sentence("P8: Returns the previous value.", CallEdgeTest::setAnswers);
        check.sentence("P8: Throws IndexOutOfBoundsException if there is no such setting", CallEdgeTest::setNone);
        check.sentence("P8: Throws IllegalArgumentException if value is out of range", CallEdgeTest::setRange);
    }

    private static void lampsGoOn() {
        StairLight x = new StairLight();
        x.press(0);
        for (int seconds : new int[] {1, 19, 21, 200}) {
            x.set(0, seconds);
            check.equal("setting 0 is " + seconds, x.floor(0, 1), 20);
            check.equal("and others do not burn", x.floor(1, 1), 0);
        }
        x.set(1, 20);
        check.equal("warning for 20 seconds: it warns", x.floor(0, 0), 2);
        check.equal("and burns as it does", x.floor(0, 1), 20);
        x.set(1, 19);
        check.equal("for 19 seconds: it is on", x.floor(0, 0), 3);
    }

    private static void peopleGoOn() {
        StairLight x = new StairLight();
        x.come(0, 7);
        x.set(3, 60);
        check.equal("more seconds for a floor", x.person(0, 3), 8);
        x.set(3, 1);
        check.equal("fewer", x.person(0, 3), 8);
        x.pass(7);
        check.equal("to the last one", x.person(0, 1), 0);
        x.pass(1);
        check.equal("on the next floor", x.person(0, 1), 1);
        check.equal("then as set", x.person(0, 3), 1);
    }

    private static void setAnswers() {
        int[][] rows = {{20, 1, 200, 20}, {5, 0, 60, 5}, {0, 1, 1, 0}, {8, 60, 1, 8}};
        StairLight x = new StairLight();
        for (int setting = 0; setting < 4; setting++) {
            for (int i = 1; i < 4; i++) {
                check.equal("setting " + setting, x.set(setting, rows[setting][i]), rows[setting][i - 1]);
                check.equal("is set", x.setting(setting), rows[setting][i]);
            }
        }
    }

    private static void setNone() {
        StairLight x = Scene.busy();
        for (int setting : new int[] {-1, 4, Integer.MIN_VALUE, Integer.MAX_VALUE}) {
            check.refused("setting " + setting, IndexOutOfBoundsException.class, x, () -> x.set(setting, 1));
            check.refused("and no value", IndexOutOfBoundsException.class, x, () -> x.set(setting, 1000));
        }
    }

    private static void setRange() {
        StairLight x = Scene.busy();
        int[][] rows = {{0, 201}, {-1, 61}, {-1, 2}, {0, 61}};
        for (int setting = 0; setting < 4; setting++) {
            int which = setting;
            for (int value : new int[] {rows[which][0], rows[which][1], Integer.MIN_VALUE, Integer.MAX_VALUE}) {
                String title = "setting " + which + ", value " + value;
                check.refused(title, IllegalArgumentException.class, x, () -> x.set(which, value));
            }
        }
    }

    private static void pass() {
        check.sentence("P9: seconds: 1 to 300", CallEdgeTest::passRange);
        check.sentence("P9: Undoable, as one call.", CallEdgeTest::passIsOneCall);
        check.sentence("P9: Returns how many seconds of people were dark in them, all together.",
            CallEdgeTest::passAnswers);
        check.sentence("P9: Throws IllegalArgumentException if seconds is out of range", CallEdgeTest::passRefuses);
    }

    private static void passRange() {
        StairLight x = new StairLight();
        x.set(3, 60);
        x.come(0, 7);
        x.pass(1);
        check.equal("1 second", x.count(0), 1);
        check.equal("to go", x.person(0, 3), 59);
        x.pass(300);
        check.equal("300 seconds", x.count(0), 301);
        check.equal("five floors", x.person(0, 1), 5);
        check.equal("and one second", x.person(0, 3), 59);
    }

    private static void passIsOneCall() {
        StairLight x = new StairLight();
        Scene.breakAll(x);
        x.come(0, 7);
        String before = Scene.look(x);
        x.pass(300);
        check.equal("one state, not more than six", x.count(10), 6);
        x.undo();
        check.isTrue("all of the seconds", Scene.look(x).equals(before));
        StairLight y = new StairLight();
        y.pass(2);
        check.equal("one state for two seconds", y.count(10), 1);
    }

    private static void passAnswers() {
        StairLight x = new StairLight();
        check.equal("nobody", x.pass(300), 0);
        Scene.breakAll(x);
        Scene.fill(x);
        check.equal("six people for a second", x.pass(1), 6);
        check.equal("those before do not count", x.pass(1), 6);
        check.equal("until all are gone", x.pass(300), 6 * 54);
        check.equal("all of them", x.count(4), 6 * 56);
        x.come(0, 1);
        x.night(true);
        check.equal("dim ones do not count", x.pass(4), 0);
        x.night(false);
        check.equal("the other ones: three on the floor 0, one on the floor 1", x.pass(300), 4);
        check.equal("gone", x.pass(1), 0);
    }

    private static void passRefuses() {
        StairLight x = Scene.busy();
        for (int seconds : new int[] {0, 301, -1, -300, Integer.MIN_VALUE, Integer.MAX_VALUE}) {
            check.refused(seconds + " seconds", IllegalArgumentException.class, x, () -> x.pass(seconds));
        }
    }

    private static void comeAll() {
        check.sentence("P13: Lets the people in the buffer come, one after the other,", CallEdgeTest::oneAfterTheOther);
        check.sentence("P13: each as soon as there are fewer than 6 on the stairs:", CallEdgeTest::asSoonAsThereIsRoom);
        check.sentence("P13: as long as there are not, a second passes;", CallEdgeTest::secondsPass);
        check.sentence("P13: and clears the buffer.", CallEdgeTest::clears);
        check.sentence("P13: Undoable, as one call.", CallEdgeTest::comeAllIsOneCall);
        check.sentence("P13: Returns how many seconds pass.", CallEdgeTest::comeAllAnswers);
        check.sentence("P13: Throws IllegalArgumentException if the buffer is not complete walks as a text",
            CallEdgeTest::comeAllRefuses);
    }

    private static void oneAfterTheOther() {
        StairLight x = Scene.withBuffer("0>7;7<0;3>4;4<3;1>2;6<5");
        check.equal("six have room", x.comeAll(), 0);
        int[] floors = {0, 7, 3, 4, 1, 6};
        int[] goals = {7, 0, 4, 3, 2, 5};
        for (int place = 0; place < 6; place++) {
            check.equal("number at " + place, x.person(place, 0), place);
            check.equal("floor at " + place, x.person(place, 1), floors[place]);
            check.equal("goal at " + place, x.person(place, 2), goals[place]);
            check.equal("to go at " + place, x.person(place, 3), 8);
        }
        check.equal("the sensors look in the next second", x.count(3), 0);
        StairLight y = Scene.withBuffer("0>7");
        y.come(4, 5);
        y.comeAll();
        check.equal("a single one, behind those who are there", y.person(1, 0), 1);
    }

    private static void asSoonAsThereIsRoom() {
        StairLight x = new StairLight();
        x.set(3, 1);
        for (int i = 0; i < 4; i++) {
            x.come(0, 7);
        }
        Scene.type(x, "0>7;0>7");
        check.equal("the fifth and the sixth have room", x.comeAll(), 0);
        check.equal("six", x.count(1), 6);
        Scene.type(x, "3>4");
        check.equal("the seventh waits until the first ones are gone", x.comeAll(), 8);
        check.equal("all six at once", x.count(1), 1);
        check.equal("the seventh", x.person(0, 0), 6);
        check.equal("has not walked yet", x.person(0, 1), 3);
        StairLight y = new StairLight();
        y.set(3, 1);
        y.come(6, 7);
        for (int i = 0; i < 5; i++) {
            y.come(0, 7);
        }
        Scene.type(y, "1>3;3>4;5>6");
        check.equal("one is gone after 2, the next one who came after 3 more, that one's next after 2 more",
            y.comeAll(), 2 + 3 + 2);
        check.equal("six", y.count(1), 6);
        check.equal("the last one", y.person(5, 0), 8);
    }

    private static void secondsPass() {
        StairLight x = new StairLight();
        StairLight twin = new StairLight();
        for (StairLight each : new StairLight[] {x, twin}) {
            each.set(3, 2);
            each.sensor(0, false);
            each.sensor(2, false);
            Scene.fill(each);
            each.turn(3, 1);
        }
        Scene.type(x, "5<2");
        check.equal("until the one who goes to floor 1 is gone", x.comeAll(), 3);
        twin.pass(3);
        twin.come(5, 2);
        check.isTrue("as if they were let pass", Scene.look(x).equals(Scene.look(twin)));
        check.isTrue("dark ones are counted", x.count(4) > 0);
        check.equal("seconds have gone", x.count(0), 3);
    }

    private static void clears() {
        StairLight x = Scene.withBuffer("0>7");
        x.comeAll();
        check.equal("nothing is left", x.clearBuffer(), 0);
        Scene.type(x, "7<");
        check.equal("the next text begins anew", x.firstError(), 2);
        check.refused("it is not complete", IllegalArgumentException.class, x, x::comeAll);
        x.append('0');
        check.equal("now it is", x.comeAll(), 0);
        check.equal("one came for each text", x.count(2), 2);
        check.throwsThat("nothing is left to come", IllegalArgumentException.class, x::comeAll);
    }

    private static void comeAllIsOneCall() {
        StairLight x = new StairLight();
        x.press(3);
        String before = Scene.look(x);
        Scene.type(x, "0>7;0>7;0>7;0>7;0>7;0>1;0>7;0>7");
        check.equal("two have to wait", x.comeAll(), 57);
        check.equal("one state", x.count(10), 2);
        check.equal("one is left", x.undo(), 1);
        check.isTrue("all of it is undone", Scene.look(x).equals(before));
    }

    private static void comeAllAnswers() {
        StairLight x = Scene.withBuffer("1>2;1>2;1>2;1>2;1>2;1>2");
        check.equal("none for six", x.comeAll(), 0);
        Scene.type(x, "1>2");
        check.equal("9 for the seventh", x.comeAll(), 9);
        StairLight y = Scene.withBuffer("0>7;0>7;0>7;0>7;0>7;0>7;0>7;0>7;0>7;0>7;0>7;0>7;0>7;0>7;0>7");
        y.set(3, 60);
        y.pass(10);
        check.equal("fifteen, the longest way", y.comeAll(), 2 * 421);
        check.equal("those before do not count", y.count(0), 10 + 2 * 421);
        check.equal("fifteen came", y.count(2), 15);
        check.equal("three are there", y.count(1), 3);
    }

    private static void comeAllRefuses() {
        String[] texts = {"", "0", "0>", "0>7;", "0>7;1", "0>7;1>", "0>0", "7<7", "0<7", "7>0", "8>9", "0>8", ";",
            "0>7;1=2", "0>7!", "0>77"};
        for (String text : texts) {
            StairLight x = Scene.busy();
            x.clearBuffer();
            Scene.type(x, text);
            check.refused("\"" + text + "\"", IllegalArgumentException.class, x, x::comeAll);
            check.equal("\"" + text + "\" stays", x.clearBuffer(), text.length());
        }
        StairLight full = Scene.withBuffer("0>1;1>2;2>3;3>4;4>5;5>6;6>7;7<6;6<5;5<4;4<3;3<2;2<1;1<0;0>7;");
        check.refused("60 characters", IllegalArgumentException.class, full, full::comeAll);
    }
}
