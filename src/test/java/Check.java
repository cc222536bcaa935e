/** Counts what is as due and tells what is not; each test class uses one and ends with its code. */
final class Check {
    private int right = 0;
    private int wrong = 0;
    private String sentence = "";

    /** A call that may throw. */
    interface Call {
        void run();
    }

    /** A test of a sentence of the document: what is not as due in it is told with the sentence. */
    void sentence(String words, Call test) {
        int before = right + wrong;
        sentence = "[" + words + "] ";
        try {
            test.run();
        } catch (RuntimeException e) {
            tell(false, "a call threw " + e);
        }
        tell(right + wrong > before, "nothing was checked");
        sentence = "";
    }

    void equal(String what, long got, long due) {
        tell(got == due, what + " answered " + got + ", due is " + due);
    }

    void same(String what, double got, double due) {
        tell(Double.compare(got, due) == 0, what + " answered " + got + ", due is " + due);
    }

    void isTrue(String what, boolean isSo) {
        tell(isSo, what);
    }

    /** The call must throw that very class, and leave the object as it was. */
    void refused(String what, Class<? extends RuntimeException> due, StairLight stairs, Call call) {
        long before = stairs.digest();
        throwsThat(what, due, call);
        tell(stairs.digest() == before, what + " changed the state, though it is refused");
    }

    /** The call must throw that very class; what it leaves is not looked at. */
    void throwsThat(String what, Class<? extends RuntimeException> due, Call call) {
        Class<?> thrown = null;
        try {
            call.run();
        } catch (RuntimeException e) {
            thrown = e.getClass();
        }
        tell(thrown == due, what + " threw " + thrown + ", due is " + due);
    }

    void end(String title) {
        System.out.println(title + ": " + right + " as due, " + wrong + " not");
        if (wrong > 0 || right == 0) {
            System.exit(1);
        }
    }

    private void tell(boolean isRight, String text) {
        if (isRight) {
            right++;
        } else {
            wrong++;
            System.out.println("not as due: " + sentence + text);
        }
    }
}
