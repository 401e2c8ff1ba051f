/** Calls that may not change an object: all that it tells is compared from before to after. */
final class Kept {
    private Kept() {
    }

    /** A call on an object that the test hands over. */
    interface Use {
        Object on(Gapline x);
    }

    /** A call that answers what is due, without a -9 being counted. */
    static void answers(String what, Gapline x, Use use, Object due) {
        compare(what, x, use, due, 0);
    }

    /** A call that is refused: house(5) counts it once, and nothing else changes. */
    static void refused(String what, Gapline x, Use use) {
        compare(what, x, use, -9, 1);
    }

    static void noPlace(String what, Gapline x, Use use) {
        compare(what, x, use, "throws " + IndexOutOfBoundsException.class.getName(), 0);
    }

    static void badArgument(String what, Gapline x, Use use) {
        compare(what, x, use, "throws " + IllegalArgumentException.class.getName(), 0);
    }

    private static void compare(String what, Gapline x, Use use, Object due, int refusals) {
        String before = state(x);
        int counted = x.house(5);
        long digest = x.digest();
        Check.same(what, Check.outcome(() -> use.on(x)), due);
        Check.same(what + ": house(5) after", x.house(5), counted + refusals);
        Check.same(what + ": the rest after", state(x), before);
        if (refusals == 0) {
            Check.same(what + ": digest after", x.digest(), digest);
        }
    }

    /** All that an object tells, but for house(5); some 40 calls. */
    static String state(Gapline x) {
        StringBuilder told = new StringBuilder();
        for (int line = 0; line < 4; line++) {
            told.append("line ").append(x.text(line, false)).append('\n');
        }
        for (int what = 0; what <= 4; what++) {
            told.append("window ").append(x.window(what)).append('\n');
        }
        told.append("stalls ").append(x.stalls(4)).append('\n');
        for (int bar = 0; bar < 10; bar++) {
            told.append("bar ").append(x.ofBar(bar, 0)).append(' ').append(x.ofBar(bar, 1))
                    .append(' ').append(x.ofBar(bar, 2)).append('\n');
        }
        told.append("sweep ").append(x.house(4)).append('\n');
        told.append("knocks ").append(x.house(6)).append('\n');
        return told.toString();
    }
}
