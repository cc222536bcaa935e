/** Long runs of calls, always the same ones, each answer and exception held against those of the model. */
public final class ModelTest {
    private static final Check check = new Check();
    private static final int RUNS = 160;
    /** An object is used for 512 calls; a step takes at most 63 of them, the digest behind the steps one. */
    private static final int CALLS = 512 - 63 - 1;
    private static final int[] ODD = {-1, 8, 4, 11, 61, 201, 301, 33, Integer.MIN_VALUE, Integer.MAX_VALUE};

    private long seed;
    private int calls;

    private ModelTest(long seed) {
        this.seed = seed;
    }

    /** An answer, or the exception in its place. */
    private interface Call {
        long run();
    }

    public static void main(String[] args) {
        for (int run = 0; run < RUNS; run++) {
            new ModelTest(7919L * run + 1).run(run);
        }
        check.end("ModelTest");
    }

    private int below(int bound) {
        seed = seed * 6364136223846793005L + 1442695040888963407L;
        return (int) ((seed >>> 33) % bound);
    }

    /** Mostly one of the right numbers, seldom one that may be wrong. */
    private int about(int bound) {
        return below(25) == 0 ? ODD[below(ODD.length)] : below(bound);
    }

    private void run(int run) {
        StairLight x = new StairLight();
        Model m = new Model();
        int digests = 1 + below(40);
        for (int step = 0; calls <= CALLS; step++) {
            String title = "run " + run + ", call " + calls;
            if (step % digests == 0) {
                same(title + " digest()", x::digest, m::digest);
            } else {
                step(title, x, m, run % 3);
            }
        }
        same("run " + run + ", after it", x::digest, m::digest);
    }

    private void step(String title, StairLight x, Model m, int kind) {
        int pick = below(100);
        if (pick < 50) {
            change(title, x, m, kind);
        } else if (pick < 66) {
            text(title, x, m);
        } else if (pick < 70) {
            same(title + " undo()", x::undo, m::undo);
        } else {
            look(title, x, m);
        }
    }

    private void change(String title, StairLight x, Model m, int kind) {
        int a = about(8);
        int b = about(8);
        boolean isSo = below(2) == 0;
        switch (below(kind == 0 ? 14 : 11)) {
            case 0, 1, 2, 11, 12 -> same(title + " come(" + a + ", " + b + ")", () -> x.come(a, b), () -> m.come(a, b));
            case 3 -> {
                int person = below(2) == 0 ? about(40) : m.person(below(6), 0);
                same(title + " turn(" + person + ", " + b + ")", () -> x.turn(person, b), () -> m.turn(person, b));
            }
            case 4 -> same(title + " press(" + a + ")", () -> x.press(a), () -> m.press(a));
            case 5, 6 -> same(title + " sensor(" + a + ")", () -> x.sensor(a, isSo), () -> m.sensor(a, isSo));
            case 7 -> rule(title, x, m);
            case 8 -> set(title, x, m);
            default -> {
                int seconds = below(8) == 0 ? about(302) : about(14);
                same(title + " pass(" + seconds + ")", () -> x.pass(seconds), () -> m.pass(seconds));
            }
        }
    }

    private void rule(String title, StairLight x, Model m) {
        boolean isSo = below(3) == 0;
        if (below(2) == 0) {
            same(title + " night(" + isSo + ")", () -> x.night(isSo), () -> m.night(isSo));
        } else {
            same(title + " fire(" + isSo + ")", () -> x.fire(isSo), () -> m.fire(isSo));
        }
    }

    private void set(String title, StairLight x, Model m) {
        int setting = about(4);
        int value = below(2) == 0 ? about(12) : about(202);
        same(title + " set(" + setting + ", " + value + ")", () -> x.set(setting, value), () -> m.set(setting, value));
    }

    private void text(String title, StairLight x, Model m) {
        switch (below(8)) {
            case 0 -> same(title + " clearBuffer()", x::clearBuffer, m::clearBuffer);
            case 1 -> same(title + " comeAll()", x::comeAll, m::comeAll);
            case 2 -> {
                int code = below(130);
                same(title + " append(" + code + ")", () -> x.append(code), () -> m.append(code));
            }
            case 3 -> same(title + " firstError()", x::firstError, m::firstError);
            default -> walks(title, x, m);
        }
    }

    /** Appends walks, seldom with a wrong character, and lets them come. */
    private void walks(String title, StairLight x, Model m) {
        same(title + " clearBuffer()", x::clearBuffer, m::clearBuffer);
        StringBuilder text = new StringBuilder();
        int parts = 1 + below(below(4) == 0 ? 15 : 3);
        for (int part = 0; part < parts; part++) {
            int from = below(8);
            int to = (from + 1 + below(7)) % 8;
            char sign = below(60) == 0 ? '=' : from < to ? '>' : '<';
            text.append(part == 0 ? "" : ";").append(from).append(sign).append(to);
        }
        for (char code : text.toString().toCharArray()) {
            same(title + " append(" + code + ")", () -> x.append(code), () -> m.append(code));
        }
        same(title + " firstError()", x::firstError, m::firstError);
        same(title + " comeAll()", x::comeAll, m::comeAll);
    }

    private void look(String title, StairLight x, Model m) {
        int a = about(8);
        int b = about(8);
        switch (below(9)) {
            case 0 -> same(title + " floor(" + a + ", " + b + ")", () -> x.floor(a, b), () -> m.floor(a, b));
            case 1 -> same(title + " person(" + a + ", " + b + ")", () -> x.person(a, b % 5), () -> m.person(a, b % 5));
            case 2 -> same(title + " count(" + a + ")", () -> x.count(a), () -> m.count(a));
            case 3 -> same(title + " setting(" + a + ")", () -> x.setting(a), () -> m.setting(a));
            case 4 -> {
                int seconds = about(302);
                int what = about(4);
                same(title + " ifPassed()", () -> x.ifPassed(seconds, what), () -> m.ifPassed(seconds, what));
            }
            case 5 -> same(title + " dark(" + a + ", " + b + ")", () -> x.dark(a, b), () -> m.dark(a, b));
            case 6 -> same(title + " leastTime(" + a + ", " + b + ")", () -> x.leastTime(a, b), () -> m.leastTime(a, b));
            case 7 -> same(title + " worst()", x::worst, m::worst);
            default -> {
                calls++;
                check.same(title + " lightness()", x.lightness(), m.lightness());
            }
        }
    }

    private void same(String title, Call got, Call due) {
        calls++;
        String answer = answerOf(got);
        String expected = answerOf(due);
        check.isTrue(title + " answered " + answer + ", due is " + expected, answer.equals(expected));
    }

    private static String answerOf(Call call) {
        try {
            return Long.toString(call.run());
        } catch (RuntimeException e) {
            return e.getClass().getName();
        }
    }
}
