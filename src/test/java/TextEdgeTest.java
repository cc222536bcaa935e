/** The edges that the document's "Terms" name for texts, undo and exceptions, sentence by sentence. */
public final class TextEdgeTest {
    private static final Check check = new Check();
    private static final String FIFTEEN = "0>1;1>2;2>3;3>4;4>5;5>6;6>7;7<6;6<5;5<4;4<3;3<2;2<1;1<0;0>7";

    public static void main(String[] args) {
        texts();
        undo();
        exceptions();
        check.end("TextEdgeTest");
    }

    private static void texts() {
        check.sentence("The buffer has at most 60 characters.", TextEdgeTest::atMostSixty);
        check.sentence("Walks as a text are one or more parts with \";\" between them,", TextEdgeTest::parts);
        check.sentence("each a floor, 0 to 7, \">\" or \"<\", and another floor,", TextEdgeTest::codesInEachPlace);
        check.sentence("which is greater than the first one behind \">\", and less behind \"<\".",
            TextEdgeTest::allPairs);
        check.sentence("The buffer is read from left to right;", TextEdgeTest::leftToRight);
        check.sentence("a character is a syntax error if no walks as a text, of any length, begin with the characters"
            + " before it and this character.", TextEdgeTest::beginnings);
    }

    private static void atMostSixty() {
        StairLight x = new StairLight();
        for (int length = 1; length <= 60; length++) {
            check.equal("appended", x.append('9'), length);
        }
        check.throwsThat("the 61st", IllegalStateException.class, () -> x.append('9'));
        check.equal("60 still", x.clearBuffer(), 60);
        check.equal("from the start", x.append('9'), 1);
    }

    private static boolean areWalks(String text) {
        try {
            Scene.withBuffer(text).comeAll();
            return true;
        } catch (IllegalArgumentException e) {
            return false;
        }
    }

    private static void parts() {
        check.isTrue("no part is none", !areWalks(""));
        check.isTrue("one part", areWalks("0>7"));
        check.isTrue("two parts", areWalks("0>7;1<0"));
        check.isTrue("as many parts as the buffer has place for", areWalks(FIFTEEN));
        check.isTrue("\";\" alone", !areWalks(";"));
        check.isTrue("\";\" ahead", !areWalks(";0>7"));
        check.isTrue("\";\" behind", !areWalks("0>7;"));
        check.isTrue("\";\" behind, in a full buffer", !areWalks(FIFTEEN + ";"));
        check.isTrue("\";\" twice", !areWalks("0>7;;1<0"));
        check.isTrue("nothing between", !areWalks("0>71<0"));
        check.isTrue("another sign between", !areWalks("0>7,1<0"));
    }

    /** Every character in every place of the second part, and of the first one. */
    private static void codesInEachPlace() {
        for (char code = 33; code <= 126; code++) {
            for (String ahead : new String[] {"", "7<0;"}) {
                int place = ahead.length();
                error(ahead + code, code >= '0' && code <= '7' ? place + 1 : place);
                error(ahead + "3" + code, code == '>' || code == '<' ? place + 2 : place + 1);
                error(ahead + "3>" + code, code >= '4' && code <= '7' ? place + 3 : place + 2);
                error(ahead + "3<" + code, code >= '0' && code <= '2' ? place + 3 : place + 2);
                error(ahead + "3<2" + code, code == ';' ? place + 4 : place + 3);
            }
        }
    }

    private static void error(String text, int due) {
        check.equal("the error of " + text, Scene.withBuffer(text).firstError(), due);
    }

    private static void allPairs() {
        for (int from = 0; from <= 9; from++) {
            for (int to = 0; to <= 9; to++) {
                boolean areFloors = from <= 7 && to <= 7;
                check.isTrue(from + ">" + to, areWalks(from + ">" + to) == (areFloors && to > from));
                check.isTrue(from + "<" + to, areWalks(from + "<" + to) == (areFloors && to < from));
                check.isTrue(from + "=" + to, !areWalks(from + "=" + to));
            }
        }
    }

    private static void leftToRight() {
        error("8>9", 0);
        error("0>1;2=2=2", 5);
        error("0>0;9", 2);
        error("0>1>0>1", 3);
        StairLight x = new StairLight();
        String text = "1<0;x";
        for (int i = 0; i < text.length(); i++) {
            check.equal("none before " + i, x.firstError(), i);
            x.append(text.charAt(i));
        }
        check.equal("the last one is", x.firstError(), 4);
        x.append(';');
        check.equal("the first one counts", x.firstError(), 4);
    }

    private static void beginnings() {
        error("", 0);
        error("0<", 1);
        error("1<", 2);
        error("7>", 1);
        error("6>", 2);
        error("0>", 2);
        error("7<", 2);
        error("5>7;0<", 5);
        error("5>7;7>", 5);
        error(FIFTEEN, 59);
        error(FIFTEEN + ";", 60);
        error(FIFTEEN + "0", 59);
        error(FIFTEEN.substring(0, 58), 58);
        error(FIFTEEN.substring(0, 58) + "0", 58);
    }

    private static void undo() {
        check.sentence("Each method that is marked \"undoable\" and does not throw an exception saves the state from"
            + " before it", TextEdgeTest::undoableSave);
        check.sentence("(also if it changes nothing):", TextEdgeTest::unchangedSave);
        check.sentence("saves the state (and a method that is not marked does not)", TextEdgeTest::othersDoNotSave);
        check.sentence("all, also what is counted so far,", TextEdgeTest::allIsSaved);
        check.sentence("but the buffer and the saved states.", TextEdgeTest::notTheBuffer);
        check.sentence("At most 6 states are saved;", TextEdgeTest::atMostSixStates);
        check.sentence("the oldest one is dropped first.", TextEdgeTest::oldestFirst);
    }

    private static void saves(String title, StairLight x, Scene.Step step) {
        int before = x.count(10);
        String look = Scene.look(x);
        step.on(x);
        check.equal(title + " saves a state: the number", x.count(10), before + 1);
        check.equal(title + " saves a state: undo", x.undo(), before);
        check.isTrue(title + " is undone", Scene.look(x).equals(look));
    }

    private static void undoableSave() {
        saves("come", new StairLight(), x -> x.come(0, 7));
        saves("press", new StairLight(), x -> x.press(7));
        saves("sensor", new StairLight(), x -> x.sensor(0, false));
        saves("night", new StairLight(), x -> x.night(true));
        saves("fire", new StairLight(), x -> x.fire(true));
        saves("set", new StairLight(), x -> x.set(0, 200));
        saves("pass", new StairLight(), x -> x.pass(300));
        StairLight y = new StairLight();
        y.come(3, 7);
        y.pass(4);
        saves("turn", y, x -> x.turn(0, 0));
        saves("the end of a fire", withFire(), x -> x.fire(false));
        saves("comeAll", Scene.withBuffer("0>7"), StairLight::comeAll);
        saves("comeAll with seconds", Scene.withBuffer("0>7;0>7;0>7;0>7;0>7;0>1;0>7;0>1"), StairLight::comeAll);
    }

    private static StairLight withFire() {
        StairLight x = new StairLight();
        x.fire(true);
        return x;
    }

    private static void unchangedSave() {
        saves("turn to the same floor", walker(), x -> x.turn(0, 7));
        saves("a button of a lamp that burns as long already", walker(), x -> x.press(4));
        saves("a sound sensor made sound", walker(), x -> x.sensor(0, true));
        saves("day by day", walker(), x -> x.night(false));
        saves("no fire without one", walker(), x -> x.fire(false));
        saves("a setting as it is", walker(), x -> x.set(3, 8));
        saves("a fire in a fire", withFire(), x -> x.fire(true));
        StairLight z = new StairLight();
        for (int i = 0; i < 6; i++) {
            z.night(false);
        }
        for (int left = 5; left >= 0; left--) {
            check.equal("six such states", z.undo(), left);
        }
    }

    private static StairLight walker() {
        StairLight x = new StairLight();
        x.come(3, 7);
        x.press(4);
        return x;
    }

    private static void savesNothing(String title, Scene.Step step) {
        StairLight x = new StairLight();
        x.press(3);
        x.pass(2);
        step.on(x);
        check.equal(title + " saves nothing", x.count(10), 2);
        x.undo();
        check.equal(title + " leaves what was saved", x.count(0), 0);
        check.equal(title + " leaves the number", x.count(10), 1);
    }

    private static void othersDoNotSave() {
        savesNothing("append", x -> x.append('0'));
        savesNothing("clearBuffer", StairLight::clearBuffer);
        savesNothing("firstError", StairLight::firstError);
        savesNothing("floor", x -> x.floor(3, 1));
        savesNothing("person", x -> x.person(0, 0));
        savesNothing("count", x -> x.count(0));
        savesNothing("setting", x -> x.setting(0));
        savesNothing("ifPassed", x -> x.ifPassed(300, 0));
        savesNothing("dark", x -> x.dark(0, 7));
        savesNothing("leastTime", x -> x.leastTime(0, 7));
        savesNothing("worst", StairLight::worst);
        savesNothing("lightness", StairLight::lightness);
        savesNothing("digest", StairLight::digest);
    }

    /** After each step the stairs are others; each undo must bring the ones before back, in all that can be asked. */
    private static void allIsSaved() {
        Scene.Step[] steps = {x -> x.set(3, 2), x -> x.sensor(6, false), x -> x.come(6, 0), x -> x.pass(1),
            x -> x.night(true), x -> x.pass(1), x -> x.fire(true), x -> x.pass(5), x -> x.fire(false),
            x -> x.turn(0, 7), x -> x.set(2, 1), x -> x.pass(20), x -> x.press(1), x -> x.set(0, 200),
            x -> x.set(1, 60)};
        for (int last = 6; last <= steps.length; last++) {
            StairLight x = Scene.after(steps, last);
            for (int before = last - 1; before >= last - 6; before--) {
                x.undo();
                String due = Scene.look(Scene.after(steps, before));
                check.isTrue("the state before step " + before, Scene.look(x).equals(due));
            }
        }
        StairLight y = Scene.busy();
        StairLight twin = Scene.busy();
        y.pass(7);
        y.undo();
        y.pass(40);
        twin.pass(40);
        check.isTrue("time goes on from it as from the same", Scene.look(y).equals(Scene.look(twin)));
        check.isTrue("with the same light", y.digest() == twin.digest());
    }

    private static void notTheBuffer() {
        StairLight x = Scene.withBuffer("0>");
        x.press(0);
        x.append('7');
        x.undo();
        check.equal("what was appended since stays", x.firstError(), 3);
        x.press(0);
        x.clearBuffer();
        x.undo();
        check.equal("what was cleared since stays cleared", x.clearBuffer(), 0);
        Scene.type(x, "0>7");
        x.comeAll();
        x.undo();
        check.equal("also by comeAll", x.clearBuffer(), 0);
        x.press(0);
        x.press(1);
        check.equal("the number of saved states is not brought back", x.count(10), 2);
        x.undo();
        check.equal("it is one less", x.count(10), 1);
    }

    private static void atMostSixStates() {
        StairLight x = new StairLight();
        for (int call = 1; call <= 20; call++) {
            x.pass(1);
            check.equal("states after " + call, x.count(10), Math.min(call, 6));
        }
        for (int left = 5; left >= 0; left--) {
            check.equal("undo", x.undo(), left);
            check.equal("seconds", x.count(0), 14 + left);
        }
        check.throwsThat("a seventh undo", IllegalStateException.class, x::undo);
    }

    /** Saves and undoes in turns, so that the saved states go round several times. */
    private static void oldestFirst() {
        StairLight x = new StairLight();
        int[] kept = new int[200];
        int held = 0;
        for (int round = 0; round < 12; round++) {
            for (int i = 0; i < 1 + round % 8; i++) {
                kept[held] = x.count(0);
                held++;
                x.pass(1 + round);
            }
            int oldest = Math.max(0, held - 6);
            System.arraycopy(kept, oldest, kept, 0, held - oldest);
            held -= oldest;
            check.equal("states in round " + round, x.count(10), held);
            for (int i = 0; i < round % 5 && held > 0; i++) {
                held--;
                check.equal("undo in round " + round, x.undo(), held);
                check.equal("seconds in round " + round, x.count(0), kept[held]);
            }
        }
        StairLight y = new StairLight();
        for (int call = 0; call < 7; call++) {
            y.press(call);
        }
        for (int left = 0; left < 6; left++) {
            y.undo();
        }
        check.equal("the first of seven is not undone", y.count(3), 1);
        check.equal("it is the lamp 0", y.floor(0, 1), 20);
    }

    private static void exceptions() {
        check.sentence("A call that throws an exception changes nothing.", TextEdgeTest::throwsChangeNothing);
        check.sentence("If several exceptions apply, the one that is named first in the throws clause is thrown.",
            TextEdgeTest::firstNamed);
        check.sentence("NONE = -1: There is nothing to return.", TextEdgeTest::none);
    }

    private static void throwsChangeNothing() {
        Scene.Step[] steps = {x -> x.come(8, 0), x -> x.come(0, -1), x -> x.come(3, 3), x -> x.turn(1, 8),
            x -> x.turn(1, 0), x -> x.turn(3, 0), x -> x.press(8), x -> x.sensor(-1, false), x -> x.set(4, 1),
            x -> x.set(0, 0), x -> x.set(1, 61), x -> x.set(2, 2), x -> x.set(3, 0), x -> x.pass(0),
            x -> x.pass(301), x -> x.append(32), x -> x.append(127), StairLight::comeAll, x -> x.floor(8, 0),
            x -> x.floor(0, 8), x -> x.person(-1, 0), x -> x.person(0, 4), x -> x.count(11), x -> x.setting(4),
            x -> x.ifPassed(0, 0), x -> x.ifPassed(1, 4), x -> x.dark(0, 8), x -> x.dark(2, 2),
            x -> x.leastTime(-1, 0), x -> x.leastTime(7, 7)};
        for (int i = 0; i < steps.length; i++) {
            changesNothing("call " + i, steps[i], Scene.busy(), Scene.busy());
        }
        changesNothing("come to full stairs", x -> x.come(0, 1), full(), full());
        changesNothing("append to a full buffer", x -> x.append('0'), full(), full());
        changesNothing("undo without a state", StairLight::undo, new StairLight(), new StairLight());
    }

    private static StairLight full() {
        StairLight x = Scene.withBuffer(FIFTEEN + ";");
        Scene.fill(x);
        return x;
    }

    /** Compares with a twin on which the call was not made, to the last saved state. */
    private static void changesNothing(String title, Scene.Step step, StairLight x, StairLight twin) {
        boolean isThrown = false;
        try {
            step.on(x);
        } catch (IndexOutOfBoundsException | IllegalArgumentException | IllegalStateException e) {
            isThrown = true;
        }
        check.isTrue(title + " throws", isThrown);
        check.equal(title + " leaves the digest", x.digest(), twin.digest());
        for (int left = twin.count(10); left > 0; left--) {
            check.equal(title + " leaves the states", x.undo(), twin.undo());
            check.isTrue(title + " leaves what is in them", Scene.look(x).equals(Scene.look(twin)));
        }
        check.throwsThat(title + " leaves no other state", IllegalStateException.class, x::undo);
        check.equal(title + " leaves the buffer", x.firstError(), twin.firstError());
        check.equal(title + " leaves its length", x.clearBuffer(), twin.clearBuffer());
    }

    private static void firstNamed() {
        StairLight x = full();
        check.throwsThat("come: no floor, full", IndexOutOfBoundsException.class, () -> x.come(0, 8));
        check.throwsThat("come: no floor twice, full", IndexOutOfBoundsException.class, () -> x.come(8, 8));
        check.throwsThat("come: the same, full", IllegalArgumentException.class, () -> x.come(7, 7));
        check.throwsThat("set: no setting, no value", IndexOutOfBoundsException.class, () -> x.set(4, 999));
        check.throwsThat("append: no character, full", IllegalArgumentException.class, () -> x.append(127));
        check.throwsThat("floor: no floor, no what", IndexOutOfBoundsException.class, () -> x.floor(8, 8));
        check.throwsThat("dark: no floor twice", IndexOutOfBoundsException.class, () -> x.dark(-1, -1));
        check.throwsThat("leastTime: no floor twice", IndexOutOfBoundsException.class, () -> x.leastTime(8, 8));
    }

    private static void none() {
        check.equal("the constant", StairLight.NONE, -1);
        StairLight x = new StairLight();
        check.equal("nobody", x.person(0, 0), StairLight.NONE);
        check.equal("no sensor", x.worst(), StairLight.NONE);
    }
}
