/** What more than one test needs: stairs in some state, and ways to look at all of them. */
final class Scene {
    static final int[] NO_FLOORS = {-1, 8, Integer.MIN_VALUE, Integer.MAX_VALUE};

    private static final int[] OF_STAIRS = {0, 1, 2, 7, 8};
    private static final int[] OF_A_FLOOR = {1, 2, 4, 5, 6, 7};

    /** A call on stairs. */
    interface Step {
        void on(StairLight x);
    }

    private Scene() {
    }

    static void type(StairLight x, String text) {
        for (int i = 0; i < text.length(); i++) {
            x.append(text.charAt(i));
        }
    }

    static StairLight withBuffer(String text) {
        StairLight x = new StairLight();
        type(x, text);
        return x;
    }

    static void breakAll(StairLight x) {
        for (int floor = 0; floor < 8; floor++) {
            x.sensor(floor, false);
        }
    }

    /** Lets six people come, who stay on floor 0 for a while. */
    static void fill(StairLight x) {
        for (int person = 0; person < 6; person++) {
            x.come(0, 7);
        }
    }

    /** Switches a lamp on that burns for fewer seconds, so that it burns for so many. */
    static void letBurn(StairLight x, int floor, int seconds) {
        int before = x.set(0, seconds);
        x.press(floor);
        x.set(0, before);
    }

    /** New stairs, after the first ones of some steps. */
    static StairLight after(Step[] steps, int first) {
        StairLight x = new StairLight();
        for (int i = 0; i < first; i++) {
            steps[i].on(x);
        }
        return x;
    }

    /** Stairs of which nearly each number is another one, with six saved states and a buffer of two characters. */
    static StairLight busy() {
        StairLight x = new StairLight();
        x.set(3, 3);
        x.set(0, 13);
        x.sensor(3, false);
        x.come(2, 4);
        x.come(2, 1);
        x.pass(4);
        x.night(true);
        x.pass(2);
        x.come(5, 0);
        x.press(6);
        x.pass(1);
        type(x, "3<");
        return x;
    }

    /**
     * All that undo brings back, as a text: what can be asked but for the number of saved states and for
     * what follows from the rest. It takes 59 calls, and 5 for each person: an object is used for 512.
     */
    static String look(StairLight x) {
        StringBuilder text = new StringBuilder();
        for (int what : OF_STAIRS) {
            text.append(x.count(what)).append(' ');
        }
        for (int floor = 0; floor < 8; floor++) {
            for (int what : OF_A_FLOOR) {
                text.append(what == 1 ? "/" : " ").append(x.floor(floor, what));
            }
        }
        for (int place = 0; x.person(place, 0) != StairLight.NONE; place++) {
            text.append('/').append(x.person(place, 0)).append(' ').append(x.person(place, 1));
            text.append(' ').append(x.person(place, 2)).append(' ').append(x.person(place, 3));
        }
        for (int setting = 0; setting < 4; setting++) {
            text.append(' ').append(x.setting(setting));
        }
        return text.append(' ').append(x.lightness()).toString();
    }

    /** The digest from what the other calls answer, in the order of the document. */
    static long digestOf(StairLight x, String buffer) {
        long hash = 3061;
        for (int what = 0; what <= 10; what++) {
            hash = 31 * hash + x.count(what);
        }
        for (int setting = 0; setting < 4; setting++) {
            hash = 31 * hash + x.setting(setting);
        }
        for (int i = 0; i < 64; i++) {
            hash = 31 * hash + x.floor(i / 8, i % 8);
        }
        for (int i = 0; i < 4 * x.count(1); i++) {
            hash = 31 * hash + x.person(i / 4, i % 4);
        }
        for (int what = 0; what < 4; what++) {
            hash = 31 * hash + x.ifPassed(30, what);
        }
        hash = 31 * hash + x.dark(0, 7);
        hash = 31 * hash + x.dark(6, 2);
        hash = 31 * hash + x.leastTime(1, 5);
        hash = 31 * hash + x.worst();
        hash = 31 * hash + Double.doubleToLongBits(x.lightness());
        hash = 31 * hash + buffer.length();
        for (int i = 0; i < buffer.length(); i++) {
            hash = 31 * hash + buffer.charAt(i);
        }
        return hash;
    }
}
