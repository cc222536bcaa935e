/** Promises 19 to 21, and 24: what would be, and the digest. */
public final class OutlookTest {
    private static final Check check = new Check();

    public static void main(String[] args) {
        ifPassedAnswers();
        ifPassedRefuses();
        darkAnswers();
        darkWithOthers();
        darkRefuses();
        leastTimeAnswers();
        leastTimeRefuses();
        outlooksChangeNothing();
        digestAnswers();
        check.end("OutlookTest");
    }

    private static void ifPassedAnswers() {
        StairLight x = new StairLight();
        x.sensor(0, false);
        x.come(0, 1);
        x.press(7);
        check.equal("P19 dark", x.ifPassed(8, 0), 7);
        check.equal("P19 energy: 8 seconds of 7, one of 1", x.ifPassed(8, 1), 90);
        check.equal("P19 people, there", x.ifPassed(8, 2), 1);
        check.equal("P19 people, gone", x.ifPassed(9, 2), 0);
        check.equal("P19 lamps", x.ifPassed(8, 3), 2);
        check.equal("P19 lamps, warning", x.ifPassed(19, 3), 2);
        check.equal("P19 lamps, one off", x.ifPassed(20, 3), 1);
        check.equal("P19 one second", x.ifPassed(1, 0), 1);
        check.equal("P19 300 seconds", x.ifPassed(300, 1), 400);
        x.pass(4);
        check.equal("P19 dark from now on", x.ifPassed(4, 0), 3);
        check.equal("P19 energy from now on", x.ifPassed(4, 1), 50);
        check.equal("P19 pass brings the same", x.pass(4), 3);
    }

    private static void ifPassedRefuses() {
        StairLight x = new StairLight();
        x.come(0, 7);
        for (int seconds : new int[] {0, -1, 301, Integer.MIN_VALUE, Integer.MAX_VALUE}) {
            check.refused("P19 seconds " + seconds, IllegalArgumentException.class, x, () -> x.ifPassed(seconds, 0));
        }
        for (int what : new int[] {-1, 4, Integer.MIN_VALUE, Integer.MAX_VALUE}) {
            check.refused("P19 what " + what, IllegalArgumentException.class, x, () -> x.ifPassed(1, what));
        }
    }

    private static void darkAnswers() {
        StairLight x = new StairLight();
        check.equal("P20 all sound", x.dark(0, 7), 0);
        x.sensor(1, false);
        check.equal("P20 one broken", x.dark(0, 7), 8);
        check.equal("P20 the first floor, a second less", x.dark(1, 7), 7);
        check.equal("P20 the last floor, one second", x.dark(7, 1), 1);
        check.equal("P20 not passed", x.dark(7, 2), 0);
        x.set(2, 1);
        check.equal("P20 neighbours", x.dark(0, 7), 0);
        x.set(2, 0);
        x.press(1);
        check.equal("P20 lit for 20 seconds, from the 8th on", x.dark(0, 7), 0);
        x.pass(6);
        check.equal("P20 lit for 14, the 15th is dark", x.dark(0, 7), 1);
        x.night(true);
        check.equal("P20 dim is not dark", x.dark(0, 7), 0);
        x.night(false);
        x.fire(true);
        check.equal("P20 fire", x.dark(0, 7), 0);
        StairLight y = new StairLight();
        Scene.breakAll(y);
        y.set(3, 60);
        check.equal("P20 the longest way", y.dark(0, 7), 420);
        check.equal("P20 down", y.dark(7, 0), 420);
        check.equal("P20 one floor", y.dark(3, 4), 60);
    }

    private static void darkWithOthers() {
        StairLight x = new StairLight();
        x.sensor(0, false);
        x.set(2, 1);
        x.come(0, 7);
        check.equal("P20 of this person alone", x.dark(0, 3), 7);
        x.come(1, 2);
        check.equal("P20 the others light the way", x.dark(0, 3), 0);
        StairLight y = new StairLight();
        for (int person = 0; person < 6; person++) {
            y.come(person, 7);
        }
        y.sensor(7, false);
        check.equal("P20 six people do not matter", y.dark(7, 6), 7);
        check.equal("P20 nobody came", y.count(2), 6);
        check.equal("P20 the next number stays", y.count(1), 6);
    }

    private static void darkRefuses() {
        StairLight x = new StairLight();
        x.come(0, 7);
        for (int floor : new int[] {-1, 8, Integer.MIN_VALUE, Integer.MAX_VALUE}) {
            check.refused("P20 from " + floor, IndexOutOfBoundsException.class, x, () -> x.dark(floor, 0));
            check.refused("P20 to " + floor, IndexOutOfBoundsException.class, x, () -> x.dark(0, floor));
            check.refused("P20 none twice", IndexOutOfBoundsException.class, x, () -> x.dark(floor, floor));
        }
        check.refused("P20 the same", IllegalArgumentException.class, x, () -> x.dark(7, 7));
    }

    private static void leastTimeAnswers() {
        StairLight x = new StairLight();
        check.equal("P21 sensors see", x.leastTime(0, 7), 1);
        Scene.breakAll(x);
        check.equal("P21 no lamp is switched on", x.leastTime(0, 7), 1);
        StairLight y = new StairLight();
        y.sensor(3, false);
        y.set(2, 1);
        y.sensor(4, false);
        // The sensor on 2 lights 3 last in the 7th second; 3 is walked from the 8th to the 15th, 4 from then on.
        check.equal("P21 from the 7th second to the 15th", y.leastTime(2, 4), 9);
        check.equal("P21 the setting itself does not matter", y.set(0, 200), 20);
        check.equal("P21 the same", y.leastTime(2, 4), 9);
        check.equal("P21 dark with the least: the last second", dark(y, 9), 1);
        check.equal("P21 dark with less", dark(y, 8), 2);
        y.set(3, 60);
        check.equal("P21 60 seconds", y.leastTime(2, 4), 61);
        y.set(0, 200);
        y.press(3);
        check.equal("P21 it burns on for 200 seconds, as it does", y.leastTime(2, 4), 1);
        StairLight z = new StairLight();
        z.set(3, 60);
        z.sensor(0, false);
        z.set(2, 1);
        z.come(1, 7);
        z.pass(55);
        // The other one's sensor lights 0 for 4 seconds more; 0 is left with the 60th second.
        check.equal("P21 from the way of another", z.leastTime(0, 1), 56);
        z.pass(5);
        check.equal("P21 nobody lights 0 any more", z.leastTime(0, 1), 1);
        z.sensor(2, false);
        z.sensor(1, false);
        z.fire(true);
        check.equal("P21 fire", z.leastTime(0, 1), 1);
    }

    private static int dark(StairLight y, int burnTime) {
        y.set(0, burnTime);
        return y.dark(2, 4);
    }

    private static void leastTimeRefuses() {
        StairLight x = new StairLight();
        for (int floor : new int[] {-1, 8, Integer.MIN_VALUE, Integer.MAX_VALUE}) {
            check.refused("P21 from " + floor, IndexOutOfBoundsException.class, x, () -> x.leastTime(floor, 0));
            check.refused("P21 to " + floor, IndexOutOfBoundsException.class, x, () -> x.leastTime(0, floor));
            check.refused("P21 none twice", IndexOutOfBoundsException.class, x, () -> x.leastTime(floor, floor));
        }
        check.refused("P21 the same", IllegalArgumentException.class, x, () -> x.leastTime(0, 0));
    }

    private static void outlooksChangeNothing() {
        StairLight x = new StairLight();
        x.sensor(2, false);
        x.come(0, 7);
        x.pass(3);
        int[] before = new int[64];
        for (int i = 0; i < 64; i++) {
            before[i] = x.floor(i / 8, i % 8);
        }
        x.ifPassed(300, 0);
        x.dark(0, 7);
        x.leastTime(1, 4);
        x.digest();
        for (int i = 0; i < 64; i++) {
            check.equal("P19 to P24 change nothing on floors", x.floor(i / 8, i % 8), before[i]);
        }
        check.equal("P19 to P24 let nobody come", x.count(2), 1);
        check.equal("P19 to P24 let no second pass", x.count(0), 3);
        check.equal("P19 to P24 change no setting", x.setting(0), 20);
        check.equal("P19 to P24 save nothing", x.count(10), 3);
        check.equal("P19 to P24 move nobody", x.person(0, 3), 5);
    }

    private static void digestAnswers() {
        StairLight x = new StairLight();
        check.equal("P24 a new object", x.digest(), Scene.digestOf(x, ""));
        x.append('a');
        x.append('0');
        check.equal("P24 with a buffer", x.digest(), Scene.digestOf(x, "a0"));
        x.clearBuffer();
        check.equal("P24 with a cleared one", x.digest(), Scene.digestOf(x, ""));
        for (int seconds = 1; seconds <= 36; seconds++) {
            StairLight day = walkers(seconds);
            check.equal("P24 with people, after " + seconds, day.digest(), Scene.digestOf(day, ""));
            StairLight night = walkers(seconds);
            night.night(true);
            night.come(2, 7);
            night.pass(seconds);
            check.equal("P24 at night, after " + seconds, night.digest(), Scene.digestOf(night, ""));
        }
        StairLight fire = walkers(5);
        fire.fire(true);
        check.equal("P24 in a fire", fire.digest(), Scene.digestOf(fire, ""));
        digestOfWays();
        digestOfAllDark();
    }

    private static StairLight walkers(int seconds) {
        StairLight x = new StairLight();
        x.sensor(2, false);
        x.sensor(4, false);
        x.set(2, 1);
        x.set(0, 13);
        x.come(3, 0);
        x.come(5, 7);
        x.pass(seconds);
        return x;
    }

    /** Ways whose numbers differ from those of the ways beside them. */
    private static void digestOfWays() {
        StairLight x = new StairLight();
        x.sensor(0, false);
        x.sensor(5, false);
        check.equal("P24 dark from 0", x.dark(0, 7), 15);
        check.equal("P24 dark from 6", x.dark(6, 2), 8);
        check.equal("P24 with those", x.digest(), Scene.digestOf(x, ""));
        x.set(2, 1);
        check.equal("P24 least time from 1", x.leastTime(1, 5), 2);
        check.equal("P24 not to 6", x.leastTime(1, 6), 9);
        check.equal("P24 with that", x.digest(), Scene.digestOf(x, ""));
    }

    private static void digestOfAllDark() {
        StairLight x = new StairLight();
        x.sensor(0, false);
        x.come(0, 7);
        x.pass(4);
        check.same("P24 no light at all", x.lightness(), 0.0);
        check.equal("P24 of no light", x.digest(), Scene.digestOf(x, ""));
        for (int seconds = 1; seconds < 56; seconds++) {
            StairLight y = new StairLight();
            y.sensor(0, false);
            y.come(0, 7);
            y.pass(4);
            y.press(0);
            y.pass(seconds);
            check.equal("P24 of some light, after " + seconds, y.digest(), Scene.digestOf(y, ""));
        }
    }
}
