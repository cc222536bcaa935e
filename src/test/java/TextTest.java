/** Promises 10 to 14: the buffer, its errors by place, walks as texts, and undo. */
public final class TextTest {
    private static final Check check = new Check();

    public static void main(String[] args) {
        appendAnswers();
        appendRefuses();
        clearBufferAnswers();
        firstErrorAnswers();
        comeAllAnswers();
        comeAllWaits();
        comeAllRefuses();
        undoAnswers();
        undoLeavesTheBuffer();
        undoRefuses();
        check.end("TextTest");
    }

    private static void appendAnswers() {
        StairLight x = new StairLight();
        check.equal("P10 the first", x.append(33), 1);
        check.equal("P10 the second", x.append(126), 2);
        for (int length = 3; length <= 60; length++) {
            check.equal("P10 up to 60", x.append('0'), length);
        }
        check.equal("P10 not undoable", x.count(10), 0);
    }

    private static void appendRefuses() {
        StairLight x = new StairLight();
        for (int code : new int[] {32, 127, 0, -1, 65536 + 48, Integer.MIN_VALUE, Integer.MAX_VALUE}) {
            check.refused("P10 append(" + code + ")", IllegalArgumentException.class, x, () -> x.append(code));
        }
        for (int i = 0; i < 60; i++) {
            x.append('7');
        }
        check.refused("P10 full", IllegalStateException.class, x, () -> x.append('7'));
        check.refused("P10 full, and no character", IllegalArgumentException.class, x, () -> x.append(32));
    }

    private static void clearBufferAnswers() {
        StairLight x = new StairLight();
        check.equal("P11 empty", x.clearBuffer(), 0);
        Scene.type(x, "0>1");
        check.equal("P11 its length", x.clearBuffer(), 3);
        check.equal("P11 empty again", x.clearBuffer(), 0);
        check.equal("P11 from the start", x.append('5'), 1);
        check.equal("P11 not undoable", x.count(10), 0);
    }

    private static void errorIn(String text, int due) {
        StairLight x = new StairLight();
        Scene.type(x, text);
        long before = x.digest();
        check.equal("P12 \"" + text + "\"", x.firstError(), due);
        check.isTrue("P12 changes nothing", x.digest() == before);
    }

    private static void firstErrorAnswers() {
        String[] right = {"", "0", "7", "0>", "6>", "7<", "1<", "0>1", "0>7", "6>7", "7<0", "1<0", "0>1;", "0>1;7",
            "0>1;7<", "0>1;7<6", "3>4;4<3;5>6;6<5;"};
        for (String text : right) {
            errorIn(text, text.length());
        }
        errorIn("8", 0);
        errorIn("/", 0);
        errorIn(">", 0);
        errorIn("9>1", 0);
        errorIn("7>", 1);
        errorIn("0<", 1);
        errorIn("3=", 1);
        errorIn("34", 1);
        errorIn("3>3", 2);
        errorIn("3>2", 2);
        errorIn("3<3", 2);
        errorIn("3<4", 2);
        errorIn("3>8", 2);
        errorIn("3</", 2);
        errorIn("3<;", 2);
        errorIn("0>1,", 3);
        errorIn("0>12", 3);
        errorIn("0>1;;", 4);
        errorIn("0>1;8", 4);
        errorIn("0>1;7>", 5);
        errorIn("0>1;0<", 5);
        errorIn("0>1;2>2", 6);
        errorIn("0>1;2>3:", 7);
        errorIn("0>1;2<3;9", 6);
        String full = "0>1;1>2;2>3;3>4;4>5;5>6;6>7;7<6;6<5;5<4;4<3;3<2;2<1;1<0;0>7;";
        errorIn(full, 60);
        errorIn(full.substring(0, 59) + ">", 59);
    }

    private static void comeAllAnswers() {
        StairLight x = new StairLight();
        Scene.type(x, "0>3;7<6");
        check.equal("P13 room for both", x.comeAll(), 0);
        check.equal("P13 undoable, as one call", x.count(10), 1);
        check.equal("P13 clears the buffer", x.clearBuffer(), 0);
        check.equal("P13 no second passes", x.count(0), 0);
        int[] due = {0, 0, 3, 8, 1, 7, 6, 8};
        for (int i = 0; i < 8; i++) {
            check.equal("P13 person " + i, x.person(i / 4, i % 4), due[i]);
        }
        check.equal("P13 two", x.person(2, 0), StairLight.NONE);
        x.undo();
        check.equal("P13 undone with one undo", x.count(2), 0);
    }

    private static void comeAllWaits() {
        StairLight x = new StairLight();
        x.come(0, 7);
        x.pass(1);
        Scene.type(x, "0>7;0>7;0>7;1>2;0>7;7<0;6<0");
        // Five more have room at once; the one to floor 2 is gone after 9 seconds, the first one 55 after the pass.
        check.equal("P13 waits for both", x.comeAll(), 56);
        check.equal("P13 seconds gone", x.count(0), 57);
        check.equal("P13 six on the stairs", x.count(1), 6);
        check.equal("P13 eight came", x.count(2), 8);
        check.equal("P13 the sixth place came just now", x.person(5, 3), 8);
        check.equal("P13 the one who waited", x.person(4, 0), 6);
        check.equal("P13 47 seconds ago", x.person(4, 1), 2);
        x.undo();
        check.equal("P13 all of it undone", x.count(0), 1);
        check.equal("P13 and the people", x.count(2), 1);
        check.equal("P13 not the buffer", x.clearBuffer(), 0);
    }

    private static void comeAllRefuses() {
        String[] wrong = {"", "0", "0>", "0>1;", "0>1;2", "0>1;2>", "0>1;2>3;", "0>0", "8>1", "0>1,2>3", "0>12>3"};
        for (String text : wrong) {
            StairLight x = new StairLight();
            Scene.type(x, text);
            check.refused("P13 \"" + text + "\"", IllegalArgumentException.class, x, x::comeAll);
        }
    }

    private static void undoAnswers() {
        Scene.Step[] steps = {x -> x.come(0, 7), x -> x.turn(0, 3), x -> x.press(4), x -> x.sensor(0, false),
            x -> x.night(true), x -> x.fire(true), x -> x.set(0, 3), x -> x.pass(30), x -> x.fire(false)};
        StairLight y = Scene.after(steps, steps.length);
        check.equal("P14 six at most", y.count(10), 6);
        for (int left = 5; left >= 0; left--) {
            check.equal("P14 states left", y.undo(), left);
            String due = Scene.look(Scene.after(steps, left + 3));
            check.isTrue("P14 as before, with " + left, Scene.look(y).equals(due));
        }
        check.refused("P14 the older ones are dropped", IllegalStateException.class, y, y::undo);
        y.press(1);
        check.equal("P14 a new one is saved", y.undo(), 0);
        check.isTrue("P14 as before it", Scene.look(y).equals(Scene.look(Scene.after(steps, 3))));
        StairLight x = new StairLight();
        x.come(1, 5);
        x.fire(false);
        check.equal("P14 saved though nothing changed", x.count(10), 2);
        check.equal("P14 and dropped", x.undo(), 1);
    }

    private static void undoLeavesTheBuffer() {
        StairLight x = new StairLight();
        x.append('0');
        x.press(0);
        x.append('>');
        x.undo();
        check.equal("P14 not the buffer", x.clearBuffer(), 2);
        x.press(0);
        x.undo();
        check.equal("P14 what is counted so far, too", x.floor(0, 7), 0);
        check.equal("P14 numbers begin again", x.come(0, 1), 0);
        x.undo();
        check.equal("P14 with the same one", x.come(0, 1), 0);
    }

    private static void undoRefuses() {
        StairLight x = new StairLight();
        check.refused("P14 none", IllegalStateException.class, x, x::undo);
        x.pass(1);
        try {
            x.pass(0);
        } catch (IllegalArgumentException e) {
            check.equal("P14 a refused call saves nothing", x.count(10), 1);
        }
        x.undo();
        check.refused("P14 none left", IllegalStateException.class, x, x::undo);
    }
}
