/** The edges of promises 19 to 21 and 24, sentence by sentence: what would be, and the digest. */
public final class OutlookEdgeTest {
    private static final Check check = new Check();

    public static void main(String[] args) {
        ifPassed();
        dark();
        leastTime();
        digest();
        check.end("OutlookEdgeTest");
    }

    private static void ifPassed() {
        check.sentence("P19: Tells what seconds would bring. seconds: 1 to 300", OutlookEdgeTest::asPassBrings);
        check.sentence("P19: 0: seconds of people that would be dark;", OutlookEdgeTest::ifDark);
        check.sentence("P19: 1: energy that would be used;", OutlookEdgeTest::ifEnergy);
        check.sentence("P19: 2: people on the stairs then;", OutlookEdgeTest::ifPeople);
        check.sentence("P19: 3: lamps that would be on or warn then", OutlookEdgeTest::ifLamps);
        check.sentence("P19: Throws IllegalArgumentException if seconds or what is out of range",
            OutlookEdgeTest::ifRefuses);
        check.sentence("---- what would be; nothing is changed.", OutlookEdgeTest::nothingIsChanged);
    }

    private static void asPassBrings() {
        for (int seconds : new int[] {1, 2, 3, 59, 299, 300}) {
            StairLight x = Scene.busy();
            int dark = x.ifPassed(seconds, 0);
            int energy = x.ifPassed(seconds, 1) + x.count(6);
            int people = x.ifPassed(seconds, 2);
            int lamps = x.ifPassed(seconds, 3);
            check.equal("dark in " + seconds, x.pass(seconds), dark);
            check.equal("energy after " + seconds, x.count(6), energy);
            check.equal("people after " + seconds, x.count(1), people);
            check.equal("lamps after " + seconds, x.count(3), lamps);
        }
    }

    private static void ifDark() {
        StairLight x = new StairLight();
        Scene.breakAll(x);
        check.equal("nobody", x.ifPassed(300, 0), 0);
        Scene.fill(x);
        check.equal("six for a second", x.ifPassed(1, 0), 6);
        check.equal("six to the end of their ways", x.ifPassed(300, 0), 6 * 56);
        x.pass(50);
        check.equal("those so far do not count", x.ifPassed(300, 0), 6 * 6);
        x.night(true);
        check.equal("dim ones do not count", x.ifPassed(300, 0), 0);
    }

    private static void ifEnergy() {
        StairLight x = new StairLight();
        check.equal("none", x.ifPassed(300, 1), 0);
        x.press(0);
        check.equal("20 seconds of one lamp", x.ifPassed(300, 1), 200);
        x.pass(19);
        check.equal("that so far does not count", x.ifPassed(300, 1), 10);
        x.night(true);
        check.equal("the last second, and dim ones", x.ifPassed(2, 1), 10 + 7 * 3 + 8 * 3);
        x.fire(true);
        check.equal("in a fire", x.ifPassed(300, 1), 24000);
    }

    private static void ifPeople() {
        StairLight x = new StairLight();
        check.equal("nobody", x.ifPassed(1, 2), 0);
        x.come(0, 1);
        x.come(0, 2);
        check.equal("both are there", x.ifPassed(8, 2), 2);
        check.equal("one is gone", x.ifPassed(9, 2), 1);
        check.equal("one is there", x.ifPassed(16, 2), 1);
        check.equal("both are gone", x.ifPassed(17, 2), 0);
    }

    private static void ifLamps() {
        StairLight x = new StairLight();
        check.equal("none", x.ifPassed(1, 3), 0);
        x.press(0);
        check.equal("warns for a second still", x.ifPassed(19, 3), 1);
        check.equal("off then", x.ifPassed(20, 3), 0);
        x.night(true);
        check.equal("dim then", x.ifPassed(20, 3), 0);
        x.fire(true);
        check.equal("a fire", x.ifPassed(300, 3), 8);
        StairLight y = new StairLight();
        y.come(3, 4);
        check.equal("switched on by a sensor", y.ifPassed(1, 3), 1);
        check.equal("and one on the next floor", y.ifPassed(8, 3), 2);
    }

    private static void ifRefuses() {
        StairLight x = Scene.busy();
        for (int seconds : new int[] {0, 301, -1, Integer.MIN_VALUE, Integer.MAX_VALUE}) {
            for (int what = 0; what < 4; what++) {
                int which = what;
                check.throwsThat(seconds + " seconds", IllegalArgumentException.class,
                    () -> x.ifPassed(seconds, which));
            }
            check.refused("both", IllegalArgumentException.class, x, () -> x.ifPassed(seconds, 4));
        }
        for (int what : new int[] {-1, 4, Integer.MIN_VALUE, Integer.MAX_VALUE}) {
            check.refused("what " + what, IllegalArgumentException.class, x, () -> x.ifPassed(1, what));
            check.refused("what " + what, IllegalArgumentException.class, x, () -> x.ifPassed(300, what));
        }
    }

    private static void nothingIsChanged() {
        StairLight full = new StairLight();
        Scene.fill(full);
        for (StairLight each : new StairLight[] {new StairLight(), Scene.busy(), full}) {
            String before = Scene.look(each);
            long hash = each.digest();
            int saved = each.count(10);
            for (int what = 0; what < 4; what++) {
                each.ifPassed(300, what);
            }
            each.dark(0, 7);
            each.leastTime(7, 0);
            each.worst();
            each.lightness();
            check.isTrue("all that can be asked", Scene.look(each).equals(before));
            check.equal("the digest", each.digest(), hash);
            check.equal("the saved states", each.count(10), saved);
        }
    }

    private static void dark() {
        check.sentence("P20: floor: 0 to 7 to: 0 to 7, another floor", OutlookEdgeTest::darkEachWay);
        check.sentence("P20: Returns how many seconds of this person would be dark", OutlookEdgeTest::darkOfThisPerson);
        check.sentence("P20: until the person is gone,", OutlookEdgeTest::darkUntilGone);
        check.sentence("P20: if that one came now and only seconds passed", OutlookEdgeTest::darkFromNow);
        check.sentence("P20: (the others go on;", OutlookEdgeTest::darkOthersGoOn);
        check.sentence("P20: whether there are 6 people does not matter).", OutlookEdgeTest::darkSixPeople);
        check.sentence("P20: Throws IndexOutOfBoundsException if there is no such floor", OutlookEdgeTest::darkNoFloor);
        check.sentence("P20: Throws IllegalArgumentException if both are the same", OutlookEdgeTest::darkSame);
    }

    private static void darkEachWay() {
        StairLight x = new StairLight();
        Scene.breakAll(x);
        x.set(3, 1);
        for (int floor = 0; floor < 8; floor++) {
            for (int to = 0; to < 8; to++) {
                if (floor != to) {
                    // With one second for a floor nobody is on the first one in any second.
                    check.equal("from " + floor + " to " + to, x.dark(floor, to), Math.abs(floor - to));
                }
            }
        }
    }

    private static void darkOfThisPerson() {
        StairLight x = new StairLight();
        Scene.breakAll(x);
        Scene.fill(x);
        check.equal("the dark seconds of others do not count", x.dark(3, 4), 8);
        x.night(true);
        check.equal("dim ones do not count", x.dark(3, 4), 0);
        x.night(false);
        x.pass(300);
        check.equal("nor those so far", x.dark(3, 4), 8);
        x.fire(true);
        check.equal("none in a fire", x.dark(3, 4), 0);
    }

    private static void darkUntilGone() {
        for (int seconds : new int[] {1, 2, 8, 60}) {
            StairLight x = new StairLight();
            Scene.breakAll(x);
            x.set(3, seconds);
            // The second in which one comes to the last floor counts; in the next one that one is gone.
            check.equal("one floor", x.dark(6, 7), seconds);
            check.equal("seven floors", x.dark(0, 7), 7 * seconds);
            check.equal("seven floors down", x.dark(7, 0), 7 * seconds);
            x.sensor(7, true);
            check.equal("but for the last floor", x.dark(0, 7), 7 * seconds - 1);
            x.sensor(0, true);
            check.equal("and for the first one", x.dark(0, 7), 6 * seconds);
        }
    }

    private static void darkFromNow() {
        StairLight x = new StairLight();
        x.sensor(0, false);
        x.press(0);
        check.equal("lit for 20 seconds", x.dark(0, 1), 0);
        x.pass(12);
        check.equal("lit for 8", x.dark(0, 1), 0);
        x.pass(2);
        check.equal("lit for 6 of the 7", x.dark(0, 1), 1);
        x.pass(6);
        check.equal("not lit", x.dark(0, 1), 7);
        x.sensor(0, true);
        check.equal("the sensors look in the next second", x.dark(0, 1), 0);
        x.set(0, 1);
        check.equal("and see the person in each second", x.dark(0, 7), 0);
    }

    private static void darkOthersGoOn() {
        StairLight x = new StairLight();
        x.set(2, 1);
        x.set(0, 1);
        x.sensor(0, false);
        check.equal("nobody else", x.dark(0, 1), 7);
        x.come(1, 7);
        check.equal("one who lights the floor from beside it", x.dark(0, 1), 0);
        x.pass(3);
        check.equal("until that one is on the next floor", x.dark(0, 1), 3);
        x.pass(5);
        check.equal("who is there now", x.dark(0, 1), 7);
    }

    private static void darkSixPeople() {
        StairLight x = new StairLight();
        Scene.fill(x);
        x.sensor(7, false);
        x.sensor(6, false);
        check.equal("six people", x.dark(7, 6), 8);
        check.equal("six people are six", x.count(1), 6);
        check.equal("no seventh came", x.count(2), 6);
        x.turn(0, 1);
        x.pass(9);
        check.equal("five people", x.dark(7, 6), 8);
        check.equal("the next number is free", x.come(7, 6), 6);
        check.equal("six again", x.dark(7, 6), 8);
    }

    private static void darkNoFloor() {
        StairLight x = Scene.busy();
        for (int floor : Scene.NO_FLOORS) {
            check.refused("from " + floor, IndexOutOfBoundsException.class, x, () -> x.dark(floor, 7));
            check.refused("to " + floor, IndexOutOfBoundsException.class, x, () -> x.dark(0, floor));
            check.refused("both " + floor, IndexOutOfBoundsException.class, x, () -> x.dark(floor, floor));
        }
    }

    private static void darkSame() {
        StairLight x = Scene.busy();
        for (int floor = 0; floor < 8; floor++) {
            int same = floor;
            check.refused("floor " + floor, IllegalArgumentException.class, x, () -> x.dark(same, same));
        }
    }

    private static void leastTime() {
        check.sentence("P21: floor: 0 to 7 to: 0 to 7, another floor", OutlookEdgeTest::leastEachWay);
        check.sentence("P21: Returns the least setting 0 with which dark() of this way would be least.",
            OutlookEdgeTest::leastOfAll);
        check.sentence("P21: the least setting 0 (which can be 1)", OutlookEdgeTest::leastIsOne);
        check.sentence("P21: the least setting 0 (which can be 200)", OutlookEdgeTest::leastIsTwoHundred);
        check.sentence("P21: Throws IndexOutOfBoundsException if there is no such floor", OutlookEdgeTest::leastNoFloor);
        check.sentence("P21: Throws IllegalArgumentException if both are the same", OutlookEdgeTest::leastSame);
    }

    private static void leastEachWay() {
        StairLight x = new StairLight();
        x.sensor(3, false);
        x.set(2, 1);
        for (int floor = 0; floor < 8; floor++) {
            for (int to = 0; to < 8; to++) {
                // 3 is lit from beside it; who walks through it is there for 8 seconds, who ends there for one.
                boolean isThrough = Math.min(floor, to) < 3 && Math.max(floor, to) > 3;
                if (floor != to) {
                    int due = isThrough ? 9 : to == 3 ? 2 : 1;
                    check.equal("from " + floor + " to " + to, x.leastTime(floor, to), due);
                }
            }
        }
    }

    private static void leastOfAll() {
        StairLight x = Scene.busy();
        x.set(2, 1);
        for (int floor = 0; floor < 8; floor++) {
            for (int to = 0; to < 8; to += 3) {
                if (floor != to) {
                    int least = x.leastTime(floor, to);
                    check.equal("from " + floor + " to " + to, least, triedTime(x, floor, to));
                }
            }
        }
        check.equal("the setting is as it was", x.setting(0), 13);
    }

    /** Tries each time; on other stairs for each way, as an object is used for 512 calls alone. */
    private static int triedTime(StairLight like, int floor, int to) {
        StairLight x = Scene.busy();
        x.set(2, like.setting(2));
        int best = 1;
        int least = Integer.MAX_VALUE;
        for (int time = 1; time <= 200; time++) {
            x.set(0, time);
            int dark = x.dark(floor, to);
            if (dark < least) {
                least = dark;
                best = time;
            }
        }
        return best;
    }

    private static void leastIsOne() {
        StairLight x = new StairLight();
        check.equal("sensors see the person all the way", x.leastTime(0, 7), 1);
        x.set(0, 200);
        check.equal("whatever the setting is", x.leastTime(0, 7), 1);
        Scene.breakAll(x);
        check.equal("no time helps", x.leastTime(7, 0), 1);
        x.night(true);
        check.equal("nothing is dark at night", x.leastTime(7, 0), 1);
        x.night(false);
        x.fire(true);
        check.equal("nor in a fire", x.leastTime(7, 0), 1);
    }

    /**
     * Somebody who gets to floor 5 lights floor 4 in one second, from beside it; the way from 0 comes to
     * floor 4 in the second after 4 floors.
     */
    private static StairLight lightFromBeside(int secondsForAFloor) {
        StairLight x = new StairLight();
        for (int floor = 0; floor < 5; floor++) {
            x.sensor(floor, false);
        }
        x.set(2, 1);
        x.set(3, secondsForAFloor);
        x.come(6, 5);
        x.pass(secondsForAFloor - 1);
        return x;
    }

    private static void leastIsTwoHundred() {
        check.equal("in the second 196", lightFromBeside(49).leastTime(0, 4), 196);
        check.equal("in the second 200", lightFromBeside(50).leastTime(0, 4), 200);
        check.equal("in the second 204: too late for any time", lightFromBeside(51).leastTime(0, 4), 1);
        StairLight x = lightFromBeside(50);
        x.set(0, 199);
        check.equal("dark with 199", x.dark(0, 4), 200);
        x.set(0, 200);
        check.equal("dark with 200", x.dark(0, 4), 199);
        x.pass(1);
        check.equal("lit a second ago, for 199 seconds more", x.dark(0, 4), 200);
        check.equal("no time helps then", x.leastTime(0, 4), 1);
    }

    private static void leastNoFloor() {
        StairLight x = Scene.busy();
        for (int floor : Scene.NO_FLOORS) {
            check.refused("from " + floor, IndexOutOfBoundsException.class, x, () -> x.leastTime(floor, 7));
            check.refused("to " + floor, IndexOutOfBoundsException.class, x, () -> x.leastTime(0, floor));
            check.refused("both " + floor, IndexOutOfBoundsException.class, x, () -> x.leastTime(floor, floor));
        }
    }

    private static void leastSame() {
        StairLight x = Scene.busy();
        for (int floor = 0; floor < 8; floor++) {
            int same = floor;
            check.refused("floor " + floor, IllegalArgumentException.class, x, () -> x.leastTime(same, same));
        }
    }

    private static void digest() {
        check.sentence("P24: The hash starts at 3061. For each value v of the following list, in order, the hash"
            + " becomes 31 * hash + v, in long arithmetic with overflow.", OutlookEdgeTest::digestOfNew);
        check.sentence("P24: for each person on the stairs the numbers 0 to 3;", OutlookEdgeTest::digestOfPeople);
        check.sentence("P24: ifPassed of 30 with 0 to 3;", OutlookEdgeTest::digestOfThirty);
        check.sentence("P24: dark from 0 to 7, and from 6 to 2; leastTime from 1 to 5;",
            OutlookEdgeTest::digestOfWays);
        check.sentence("P24: worst;", OutlookEdgeTest::digestOfWorst);
        check.sentence("P24: the bits of lightness (as Double.doubleToLongBits);", OutlookEdgeTest::digestOfLight);
        check.sentence("P24: the length of the buffer and each of its character codes.",
            OutlookEdgeTest::digestOfBuffer);
    }

    private static void digestOfNew() {
        // What is not 0 in new stairs: four settings, eight sound sensors, the least time, worst, and the light.
        long[] values = new long[11 + 4 + 64 + 4 + 2 + 1 + 1 + 1 + 1];
        values[11] = 20;
        values[12] = 5;
        values[14] = 8;
        for (int floor = 0; floor < 8; floor++) {
            values[15 + 8 * floor + 2] = 1;
        }
        values[85] = 1;
        values[86] = -1;
        values[87] = 0x3FF0000000000000L;
        long hash = 3061;
        for (long value : values) {
            hash = 31 * hash + value;
        }
        check.equal("new stairs", new StairLight().digest(), hash);
        StairLight busy = Scene.busy();
        check.equal("busy stairs", busy.digest(), Scene.digestOf(busy, "3<"));
    }

    private static void digestOfPeople() {
        for (int people = 0; people <= 6; people++) {
            StairLight x = new StairLight();
            for (int i = 0; i < people; i++) {
                x.come(i, 7);
            }
            check.equal(people + " people", x.digest(), Scene.digestOf(x, ""));
            x.pass(9);
            check.equal("after 9 seconds", x.digest(), Scene.digestOf(x, ""));
            x.pass(300);
            check.equal("all are gone", x.digest(), Scene.digestOf(x, ""));
        }
    }

    private static void digestOfThirty() {
        StairLight x = new StairLight();
        x.set(0, 30);
        x.press(4);
        x.sensor(0, false);
        x.set(3, 60);
        x.come(0, 7);
        check.equal("dark in 30 seconds, not in 29", x.ifPassed(30, 0), x.ifPassed(29, 0) + 1);
        check.equal("energy in 30 seconds, not in 29", x.ifPassed(30, 1), x.ifPassed(29, 1) + 10);
        check.equal("a lamp after 30 seconds, not after 29", x.ifPassed(30, 3), x.ifPassed(29, 3) - 1);
        check.equal("energy in 30 seconds and in 31", x.ifPassed(30, 1), x.ifPassed(31, 1));
        check.equal("dark in 30 seconds, not in 31", x.ifPassed(30, 0), x.ifPassed(31, 0) - 1);
        check.equal("with them", x.digest(), Scene.digestOf(x, ""));
    }

    private static void digestOfWays() {
        StairLight x = new StairLight();
        x.sensor(0, false);
        x.sensor(5, false);
        check.equal("from 0 to 7", x.dark(0, 7), 15);
        check.equal("from 7 to 0", x.dark(7, 0), 9);
        check.equal("from 6 to 2", x.dark(6, 2), 8);
        check.equal("from 2 to 6", x.dark(2, 6), 8);
        check.equal("with them", x.digest(), Scene.digestOf(x, ""));
        x.set(2, 1);
        check.equal("the least from 1 to 4", x.leastTime(1, 4), 1);
        check.equal("the least from 1 to 5", x.leastTime(1, 5), 2);
        check.equal("the least from 1 to 6", x.leastTime(1, 6), 9);
        check.equal("with the one to 5", x.digest(), Scene.digestOf(x, ""));
        StairLight y = new StairLight();
        y.sensor(1, false);
        y.set(2, 1);
        y.set(0, 1);
        y.come(2, 0);
        y.pass(15);
        // Who gets to 0 in the next second lights 1 from beside it, for who is on 1 for 7 seconds from then on.
        check.equal("the least from 0 to 5", y.leastTime(0, 5), 9);
        check.equal("the least from 1 to 5, with another one", y.leastTime(1, 5), 7);
        check.equal("the least from 2 to 5", y.leastTime(2, 5), 1);
        check.equal("with the one from 1", y.digest(), Scene.digestOf(y, ""));
    }

    private static void digestOfWorst() {
        for (int floor = -1; floor < 8; floor++) {
            StairLight x = new StairLight();
            if (floor >= 0) {
                x.sensor(floor, false);
            }
            check.equal("worst", x.worst(), floor);
            check.equal("with it", x.digest(), Scene.digestOf(x, ""));
        }
    }

    private static void digestOfLight() {
        for (int light = 0; light <= 24; light++) {
            StairLight x = new StairLight();
            x.set(3, 60);
            x.sensor(2, false);
            x.come(2, 3);
            Scene.letBurn(x, 2, 1 + light);
            x.pass(24);
            check.same(light + 1 + " of 24", x.lightness(), Math.min(24, light + 1) / 24.0);
            check.equal("with it", x.digest(), Scene.digestOf(x, ""));
        }
        StairLight y = new StairLight();
        y.sensor(2, false);
        y.come(2, 3);
        y.pass(1);
        check.same("no light", y.lightness(), 0.0);
        check.equal("with that", y.digest(), Scene.digestOf(y, ""));
    }

    private static void digestOfBuffer() {
        String text = "";
        for (int length = 0; length <= 60; length++) {
            StairLight x = Scene.withBuffer(text);
            check.equal("length " + length, x.digest(), Scene.digestOf(x, text));
            x.clearBuffer();
            check.equal("cleared", x.digest(), Scene.digestOf(x, ""));
            text = text + (char) (126 - length);
        }
    }
}
