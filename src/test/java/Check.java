/** What all tests share: compares answers, tells the wrong ones, and ends with 1 if there was one. */
final class Check {
    static final int LEAST = Integer.MIN_VALUE;
    static final int GREATEST = Integer.MAX_VALUE;

    private static int asked;
    private static int wrong;

    private Check() {
    }

    /** A call on the class that is tested, as the tests hand it over. */
    interface Call {
        Object answer();
    }

    static void same(String what, Object got, Object want) {
        asked++;
        if (!want.equals(got)) {
            wrong++;
            System.out.println(what + " answered " + got + ", due is " + want);
        }
    }

    static void noLine(String what, Call call) {
        same(what, outcome(call), "throws " + IndexOutOfBoundsException.class.getName());
    }

    static void noBar(String what, Call call) {
        noLine(what, call);
    }

    static void badArgument(String what, Call call) {
        same(what, outcome(call), "throws " + IllegalArgumentException.class.getName());
    }

    /** The answer, or which exception came instead. */
    static Object outcome(Call call) {
        try {
            return call.answer();
        } catch (RuntimeException thrown) {
            return "throws " + thrown.getClass().getName();
        }
    }

    static void end() {
        System.out.println(asked + " answers asked, " + wrong + " wrong");
        if (wrong != 0) {
            System.exit(1);
        }
    }
}
