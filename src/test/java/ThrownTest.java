/** Each exception that the document names, just at its edges; a call that throws changes nothing. */
public final class ThrownTest {
    private static final int[] NO_LINES = {-1, 4, Check.LEAST, Check.GREATEST};
    private static final int[] NO_BARS = {-1, 10, Check.LEAST, Check.GREATEST};
    /** Pairs of which the first one is above the second one. */
    private static final int[][] TURNED = {
        {1, 0}, {40, 30}, {Check.LEAST + 1, Check.LEAST}, {Check.GREATEST, Check.GREATEST - 1},
        {Check.GREATEST, Check.LEAST}, {0, Check.LEAST}, {Check.GREATEST, 0},
    };

    public static void main(String[] args) {
        noLineThatChanges();
        noLineThatAsks();
        noLineOfTwo();
        noLineOfBoth();
        noBar();
        lowAboveHigh();
        fromNotBelowTo();
        wrongWhat();
        wrongCount();
        noPlaceFirst();
        aheadOfRefusals();
        justInBounds();
        justInBoundsOfBars();
        worksOn();
        Check.end();
    }

    private static void noLineThatChanges() {
        for (int bad : NO_LINES) {
            Kept.noPlace("2 put, line " + bad, Rich.object(), x -> x.put(bad, 1));
            Kept.noPlace("3 take, line " + bad, Rich.object(), x -> x.take(bad, 0));
            Kept.noPlace("4 poll first, line " + bad, Rich.object(), x -> x.poll(bad, false));
            Kept.noPlace("4 poll last, line " + bad, Rich.object(), x -> x.poll(bad, true));
            Kept.noPlace("5 clear, line " + bad, Rich.object(), x -> x.clear(bad));
            Kept.noPlace("6 cut below, line " + bad, Rich.object(), x -> x.cut(bad, 50, false));
            Kept.noPlace("6 cut back, line " + bad, Rich.object(), x -> x.cut(bad, 50, true));
            Kept.noPlace("7 cutBetween, line " + bad, Rich.object(), x -> x.cutBetween(bad, 0, 50));
            Kept.noPlace("27 look, line " + bad, Rich.object(), x -> x.look(bad, 0, 50));
            Kept.noPlace("27 look, no window, line " + bad, Rich.shut(), x -> x.look(bad, 0, 50));
        }
    }

    private static void noLineThatAsks() {
        for (int bad : NO_LINES) {
            Kept.noPlace("12 size, line " + bad, Rich.object(), x -> x.size(bad));
            Kept.noPlace("13 has, line " + bad, Rich.object(), x -> x.has(bad, 0));
            Kept.noPlace("14 end, line " + bad, Rich.object(), x -> x.end(bad, false));
            Kept.noPlace("15 near, line " + bad, Rich.object(), x -> x.near(bad, 0, 0));
            Kept.noPlace("16 rank, line " + bad, Rich.object(), x -> x.rank(bad, 0, true));
            Kept.noPlace("17 beyond, line " + bad, Rich.object(), x -> x.beyond(bad, 0, true));
            Kept.noPlace("18 between, line " + bad, Rich.object(), x -> x.between(bad, 0, 9, true, true));
            Kept.noPlace("19 nth, line " + bad, Rich.object(), x -> x.nth(bad, 0, false));
            Kept.noPlace("20 chain, line " + bad, Rich.object(), x -> x.chain(bad, 0, 1));
            Kept.noPlace("21 room, line " + bad, Rich.object(), x -> x.room(bad, 0));
            Kept.noPlace("22 widest, line " + bad, Rich.object(), x -> x.widest(bad));
            Kept.noPlace("23 spread, line " + bad, Rich.object(), x -> x.spread(bad));
            Kept.noPlace("24 text, line " + bad, Rich.object(), x -> x.text(bad, true));
        }
    }

    private static void noLineOfTwo() {
        for (int bad : NO_LINES) {
            Kept.noPlace("8 join, line " + bad, Rich.object(), x -> x.join(bad, 1));
            Kept.noPlace("8 join, other " + bad, Rich.object(), x -> x.join(2, bad));
            Kept.noPlace("9 less, line " + bad, Rich.object(), x -> x.less(bad, 1));
            Kept.noPlace("9 less, other " + bad, Rich.object(), x -> x.less(1, bad));
            Kept.noPlace("10 common, line " + bad, Rich.object(), x -> x.common(bad, 1));
            Kept.noPlace("10 common, other " + bad, Rich.object(), x -> x.common(1, bad));
            Kept.noPlace("11 copy, line " + bad, Rich.object(), x -> x.copy(bad, 1));
            Kept.noPlace("11 copy, from " + bad, Rich.object(), x -> x.copy(0, bad));
            Kept.noPlace("25 holds, line " + bad, Rich.object(), x -> x.holds(bad, 1));
            Kept.noPlace("25 holds, other " + bad, Rich.object(), x -> x.holds(1, bad));
            Kept.noPlace("26 areAlike, line " + bad, Rich.object(), x -> x.areAlike(bad, 1));
            Kept.noPlace("26 areAlike, other " + bad, Rich.object(), x -> x.areAlike(1, bad));
        }
    }

    /** The same wrong line twice is no line with itself. */
    private static void noLineOfBoth() {
        for (int bad : NO_LINES) {
            Kept.noPlace("8 join, both " + bad, Rich.object(), x -> x.join(bad, bad));
            Kept.noPlace("9 less, both " + bad, Rich.object(), x -> x.less(bad, bad));
            Kept.noPlace("10 common, both " + bad, Rich.object(), x -> x.common(bad, bad));
            Kept.noPlace("11 copy, both " + bad, Rich.object(), x -> x.copy(bad, bad));
            Kept.noPlace("25 holds, both " + bad, Rich.object(), x -> x.holds(bad, bad));
            Kept.noPlace("26 areAlike, both " + bad, Rich.object(), x -> x.areAlike(bad, bad));
        }
    }

    private static void noBar() {
        for (int bad : NO_BARS) {
            Kept.noPlace("43 bar " + bad, Rich.object(), x -> x.bar(bad, 0, 9, 1));
            Kept.noPlace("44 lift, bar " + bad, Rich.object(), x -> x.lift(bad));
            Kept.noPlace("48 neighbours, bar " + bad, Rich.object(), x -> x.neighbours(bad));
            Kept.noPlace("48 neighbours, ten, bar " + bad, Rich.ten(), x -> x.neighbours(bad));
            for (int what = 0; what <= 3; what++) {
                int asked = what;
                Kept.noPlace("49 ofBar, bar " + bad, Rich.object(), x -> x.ofBar(bad, asked));
            }
        }
    }

    private static void lowAboveHigh() {
        for (int[] pair : TURNED) {
            int low = pair[0];
            int high = pair[1];
            String at = " from " + low + " to " + high;
            Kept.badArgument("7 cutBetween" + at, Rich.object(), x -> x.cutBetween(0, low, high));
            Kept.badArgument("7 cutBetween, empty" + at, Rich.object(), x -> x.cutBetween(2, low, high));
            Kept.badArgument("18 between" + at, Rich.object(), x -> x.between(0, low, high, true, true));
            Kept.badArgument("18 between, open" + at, Rich.object(), x -> x.between(3, low, high, false, false));
            Kept.badArgument("27 look" + at, Rich.object(), x -> x.look(1, low, high));
            Kept.badArgument("27 look, same line" + at, Rich.object(), x -> x.look(0, low, high));
            Kept.badArgument("27 look, no window" + at, Rich.shut(), x -> x.look(1, low, high));
            Kept.badArgument("28 narrow" + at, Rich.object(), x -> x.narrow(low, high));
            Kept.badArgument("35 reserve" + at, Rich.object(), x -> x.reserve(low, high));
            Kept.badArgument("35 reserve, no stall" + at, new Gapline(), x -> x.reserve(low, high));
            Kept.badArgument("41 isFree" + at, Rich.object(), x -> x.isFree(low, high));
            Kept.badArgument("41 isFree, no stall" + at, new Gapline(), x -> x.isFree(low, high));
        }
    }

    private static void fromNotBelowTo() {
        for (int[] pair : TURNED) {
            for (int bar : new int[] {0, 4, 9}) {
                String at = " " + bar + " from " + pair[0] + " to " + pair[1];
                Kept.badArgument("43 bar" + at, Rich.object(), x -> x.bar(bar, pair[0], pair[1], 3));
            }
        }
        for (int place : new int[] {Check.LEAST, 0, 4, Check.GREATEST}) {
            Kept.badArgument("43 bar of no length at " + place, Rich.object(), x -> x.bar(0, place, place, 3));
            Kept.badArgument("43 bar not laid at " + place, Rich.object(), x -> x.bar(9, place, place, 3));
        }
    }

    private static void wrongWhat() {
        for (int bad : new int[] {-1, 4, Check.LEAST, Check.GREATEST}) {
            Kept.badArgument("15 near, what " + bad, Rich.object(), x -> x.near(0, 50, bad));
            Kept.badArgument("15 near, empty, what " + bad, Rich.object(), x -> x.near(2, 50, bad));
            Kept.badArgument("32 windowNear, what " + bad, Rich.object(), x -> x.windowNear(50, bad));
            Kept.badArgument("32 windowNear, closed, what " + bad, Rich.shut(), x -> x.windowNear(2, bad));
            Kept.badArgument("32 windowNear, blank, what " + bad, Rich.blank(), x -> x.windowNear(2, bad));
            Kept.badArgument("49 ofBar, what " + bad, Rich.object(), x -> x.ofBar(0, bad));
            Kept.badArgument("49 ofBar, does not lie, what " + bad, Rich.object(), x -> x.ofBar(9, bad));
        }
        for (int bad : new int[] {-1, 5, Check.LEAST, Check.GREATEST}) {
            Kept.badArgument("34 window, what " + bad, Rich.object(), x -> x.window(bad));
            Kept.badArgument("34 window, closed, what " + bad, Rich.shut(), x -> x.window(bad));
            Kept.badArgument("34 window, never, what " + bad, new Gapline(), x -> x.window(bad));
            Kept.badArgument("42 stalls, what " + bad, Rich.object(), x -> x.stalls(bad));
            Kept.badArgument("42 stalls, none, what " + bad, new Gapline(), x -> x.stalls(bad));
        }
        for (int bad : new int[] {-1, 7, Check.LEAST, Check.GREATEST}) {
            Kept.badArgument("50 house, what " + bad, Rich.object(), x -> x.house(bad));
            Kept.badArgument("50 house, new, what " + bad, new Gapline(), x -> x.house(bad));
        }
    }

    private static void wrongCount() {
        for (int bad : new int[] {-1, -2, Check.LEAST}) {
            Kept.badArgument("19 nth " + bad, Rich.object(), x -> x.nth(0, bad, false));
            Kept.badArgument("19 nth back " + bad, Rich.object(), x -> x.nth(0, bad, true));
            Kept.badArgument("19 nth, empty " + bad, Rich.object(), x -> x.nth(2, bad, false));
        }
        for (int bad : new int[] {0, -1, 21, 22, Check.LEAST, Check.GREATEST}) {
            Kept.badArgument("20 chain, steps " + bad, Rich.object(), x -> x.chain(0, -1, bad));
            Kept.badArgument("20 chain, empty, steps " + bad, Rich.object(), x -> x.chain(2, -1, bad));
            Kept.badArgument("20 chain, behind all, steps " + bad,
                    Rich.object(), x -> x.chain(0, Check.GREATEST, bad));
        }
        for (int bad : new int[] {0, -1, Check.LEAST}) {
            Kept.badArgument("40 fit " + bad, Rich.object(), x -> x.fit(bad));
            Kept.badArgument("40 fit, no stall " + bad, new Gapline(), x -> x.fit(bad));
            Kept.badArgument("40 fit, all taken " + bad, Rich.taken(), x -> x.fit(bad));
        }
    }

    private static void noPlaceFirst() {
        for (int bad : NO_LINES) {
            Kept.noPlace("7 cutBetween, line first " + bad, Rich.object(), x -> x.cutBetween(bad, 1, 0));
            Kept.noPlace("15 near, line first " + bad, Rich.object(), x -> x.near(bad, 1, 4));
            Kept.noPlace("18 between, line first " + bad,
                    Rich.object(), x -> x.between(bad, 1, 0, true, true));
            Kept.noPlace("19 nth, line first " + bad, Rich.object(), x -> x.nth(bad, -1, true));
            Kept.noPlace("20 chain, line first " + bad, Rich.object(), x -> x.chain(bad, 0, 0));
            Kept.noPlace("20 chain, line first, many " + bad, Rich.object(), x -> x.chain(bad, 0, 21));
            Kept.noPlace("27 look, line first " + bad, Rich.object(), x -> x.look(bad, 1, 0));
        }
        for (int bad : NO_BARS) {
            Kept.noPlace("43 bar, number first " + bad, Rich.object(), x -> x.bar(bad, 1, 0, 0));
            Kept.noPlace("43 bar, number first, no length " + bad, Rich.object(), x -> x.bar(bad, 1, 1, 0));
            Kept.noPlace("49 ofBar, number first " + bad, Rich.object(), x -> x.ofBar(bad, 4));
            Kept.noPlace("49 ofBar, number first, below " + bad, Rich.object(), x -> x.ofBar(bad, -1));
        }
    }

    /** Calls that would be refused, if they did not throw. */
    private static void aheadOfRefusals() {
        Kept.noPlace("8 join to a full line", Rich.object(), x -> x.join(0, 4));
        Kept.noPlace("8 join from a full line", Rich.object(), x -> x.join(-1, 0));
        Kept.badArgument("28 narrow, never a window", new Gapline(), x -> x.narrow(1, 0));
        Kept.badArgument("28 narrow, a closed window", Rich.shut(), x -> x.narrow(3, 2));
        Kept.badArgument("28 narrow, both outside", Rich.object(), x -> x.narrow(100, 24));
        Kept.badArgument("28 narrow, low outside", Rich.object(), x -> x.narrow(96, 95));
        Kept.badArgument("28 narrow, high outside", Rich.object(), x -> x.narrow(25, 24));
        Kept.badArgument("28 narrow, both inside", Rich.object(), x -> x.narrow(51, 50));
        Kept.badArgument("35 reserve, meets one", Rich.object(), x -> x.reserve(35, 34));
        Kept.badArgument("35 reserve, 16 there", Rich.sixteen(), x -> x.reserve(-1, -2));
        Kept.badArgument("35 reserve, 16 there, meets one", Rich.sixteen(), x -> x.reserve(9, 8));
        Kept.badArgument("35 reserve, all taken", Rich.taken(), x -> x.reserve(1, 0));
    }

    /** The last arguments that do not throw: low may be high, and each line and question has its number. */
    private static void justInBounds() {
        for (int line : new int[] {0, 3}) {
            Check.same("2 put, line " + line, new Gapline().put(line, 1), 1);
            Check.same("12 size, line " + line, new Gapline().size(line), 0);
            Check.same("27 look, line " + line, new Gapline().look(line, 1, 1), 0);
            Kept.answers("8 join, lines " + line, new Gapline(), x -> x.join(3 - line, line), 0);
            Kept.answers("7 cutBetween, low is high", Rich.object(), x -> x.cutBetween(line, 5, 5), 0);
            Kept.answers("18 between, low is high", Rich.object(), x -> x.between(line, 5, 5, true, true), 0);
        }
        for (int number : new int[] {Check.LEAST, 0, Check.GREATEST}) {
            Check.same("27 look, low is high " + number, new Gapline().look(1, number, number), 0);
            Check.same("35 reserve, low is high " + number, new Gapline().reserve(number, number), 1);
            Check.same("41 isFree, low is high " + number, new Gapline().isFree(number, number), true);
        }
        Check.same("28 narrow, low is high", Rich.object().narrow(25, 25), 0);
        Kept.answers("15 near, what 0", Rich.object(), x -> x.near(0, 55, 0), "50");
        Kept.answers("15 near, what 3", Rich.object(), x -> x.near(0, 55, 3), "60");
        Kept.answers("32 windowNear, what 0", Rich.object(), x -> x.windowNear(55, 0), "50");
        Kept.answers("32 windowNear, what 3", Rich.object(), x -> x.windowNear(55, 3), "60");
        Kept.answers("19 nth, k 0", Rich.object(), x -> x.nth(0, 0, false), "0");
        Kept.answers("20 chain, 1 step", Rich.object(), x -> x.chain(0, 0, 1), "10");
        Kept.answers("20 chain, 20 steps", Rich.object(), x -> x.chain(0, -1, 20), "190");
        Kept.answers("34 window, what 0", Rich.object(), x -> x.window(0), "0");
        Kept.answers("34 window, what 4", Rich.object(), x -> x.window(4), "30 40 50 60 70 80 90");
        Kept.answers("40 fit, size 1", Rich.object(), x -> x.fit(1), "-2147483647");
        Kept.answers("42 stalls, what 0", Rich.object(), x -> x.stalls(0), "5");
        Kept.answers("50 house, what 0", Rich.object(), x -> x.house(0), 26);
        Kept.answers("50 house, what 6", Rich.object(), x -> x.house(6), 2);
    }

    private static void justInBoundsOfBars() {
        for (int bar : new int[] {0, 9}) {
            Check.same("43 bar " + bar + " of length 1", new Gapline().bar(bar, 0, 1, 5), 1);
            Check.same("44 lift, bar " + bar, Rich.ten().lift(bar), 1);
            Kept.answers("48 neighbours, bar " + bar, Rich.ten(), x -> x.neighbours(bar), bar == 0 ? "1 -" : "- 8");
            Kept.answers("49 ofBar, what 0, bar " + bar, Rich.ten(), x -> x.ofBar(bar, 0), "-100");
            Kept.answers("49 ofBar, what 3, bar " + bar, Rich.ten(), x -> x.ofBar(bar, 3), "1");
        }
    }

    /** An object goes on as if a call that threw had not been made. */
    private static void worksOn() {
        Gapline x = Rich.object();
        Check.noLine("27 look at no line", () -> x.look(7, 0, 1));
        Check.same("30 windowTake after it", x.windowTake(30), 1);
        Check.badArgument("28 narrow turned", () -> x.narrow(60, 50));
        Check.same("29 windowPut after it", x.windowPut(26), 1);
        Check.badArgument("35 reserve turned", () -> x.reserve(21, 20));
        Check.same("35 reserve after it", x.reserve(20, 20), 6);
        Check.badArgument("43 bar turned", () -> x.bar(0, 9, 2, 1));
        Check.same("46 open after it", x.open(), "1 0 3");
        Check.noLine("11 copy from no line", () -> x.copy(1, 9));
        Check.same("24 text after it", x.text(1, false), "-9 5 7");
        Check.badArgument("50 house of nothing", () -> x.house(7));
        Check.same("51 knock after it", x.knock(), 3);
        Check.same("50 refusals then", x.house(5), 1);
    }
}
