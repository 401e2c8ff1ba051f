/** Promises 12 to 26: what is asked of lines. */
public final class LineAskTest {
    public static void main(String[] args) {
        sizeAndHas();
        end();
        near();
        rank();
        beyond();
        between();
        nth();
        chain();
        room();
        widest();
        spread();
        text();
        holds();
        areAlike();
        wrongLines();
        Check.end();
    }

    private static void sizeAndHas() {
        Gapline x = LinePutTest.with(0, 4, -4, Check.LEAST, Check.GREATEST);
        Check.same("size", x.size(0), 4);
        Check.same("size of another line", x.size(3), 0);
        Check.same("size full", LinePutTest.full(2).size(2), 20);
        Check.same("has", x.has(0, -4), true);
        Check.same("has least", x.has(0, Check.LEAST), true);
        Check.same("has greatest", x.has(0, Check.GREATEST), true);
        Check.same("has not", x.has(0, 0), false);
        Check.same("has not on another line", x.has(1, 4), false);
    }

    private static void end() {
        Gapline x = LinePutTest.with(0, 4, -4, 9);
        Check.same("end first", x.end(0, false), "-4");
        Check.same("end last", x.end(0, true), "9");
        Check.same("end stays", x.size(0), 3);
        Check.same("end first of none", x.end(1, false), "");
        Check.same("end last of none", x.end(1, true), "");
        Check.same("end of one", LinePutTest.with(2, 6).end(2, true), "6");
    }

    private static void near() {
        Gapline x = LinePutTest.with(0, 10, 20, 30);
        String[][] due = {
            {"", "10", "", "10"},
            {"10", "10", "", "20"},
            {"10", "20", "10", "20"},
            {"20", "20", "10", "30"},
            {"30", "30", "20", ""},
            {"30", "", "30", ""},
        };
        int[] numbers = {9, 10, 15, 20, 30, 31};
        for (int i = 0; i < numbers.length; i++) {
            for (int what = 0; what <= 3; what++) {
                Check.same("near " + numbers[i] + " " + what, x.near(0, numbers[i], what), due[i][what]);
            }
        }
        Gapline y = LinePutTest.with(1, Check.LEAST, Check.GREATEST);
        Check.same("near below least", y.near(1, Check.LEAST, 2), "");
        Check.same("near at most least", y.near(1, Check.LEAST, 0), "-2147483648");
        Check.same("near above least", y.near(1, Check.LEAST, 3), "2147483647");
        Check.same("near above greatest", y.near(1, Check.GREATEST, 3), "");
        Check.same("near at least greatest", y.near(1, Check.GREATEST, 1), "2147483647");
        for (int what = 0; what <= 3; what++) {
            Check.same("near of none", y.near(2, 0, what), "");
        }
        for (int bad : new int[] {-1, 4, Check.LEAST, Check.GREATEST}) {
            Check.badArgument("near what " + bad, () -> x.near(0, 1, bad));
            Check.noLine("near line first " + bad, () -> x.near(4, 1, bad));
        }
    }

    private static void rank() {
        Gapline x = LinePutTest.with(0, 10, 20, 30);
        Check.same("rank there", x.rank(0, 20, false), 1);
        Check.same("rank there, in", x.rank(0, 20, true), 2);
        Check.same("rank not there", x.rank(0, 25, false), 2);
        Check.same("rank not there, in", x.rank(0, 25, true), 2);
        Check.same("rank below all", x.rank(0, Check.LEAST, true), 0);
        Check.same("rank above all", x.rank(0, Check.GREATEST, false), 3);
        Check.same("rank of none", x.rank(1, 5, true), 0);
        Gapline y = LinePutTest.with(0, Check.LEAST, Check.GREATEST);
        Check.same("rank least", y.rank(0, Check.LEAST, true), 1);
        Check.same("rank greatest", y.rank(0, Check.GREATEST, false), 1);
        Gapline z = LinePutTest.with(0, 4, 5, 6);
        Check.same("rank beside others", z.rank(0, 5, false), 1);
        Check.same("rank beside others, in", z.rank(0, 5, true), 2);
    }

    private static void beyond() {
        Gapline x = LinePutTest.with(0, 10, 20, 30);
        Check.same("beyond there", x.beyond(0, 20, false), 1);
        Check.same("beyond there, in", x.beyond(0, 20, true), 2);
        Check.same("beyond not there", x.beyond(0, 15, false), 2);
        Check.same("beyond not there, in", x.beyond(0, 15, true), 2);
        Check.same("beyond below all", x.beyond(0, Check.LEAST, false), 3);
        Check.same("beyond above all", x.beyond(0, Check.GREATEST, true), 0);
        Check.same("beyond of none", x.beyond(1, 5, true), 0);
        Gapline y = LinePutTest.with(0, Check.LEAST, Check.GREATEST);
        Check.same("beyond least", y.beyond(0, Check.LEAST, false), 1);
        Check.same("beyond greatest", y.beyond(0, Check.GREATEST, true), 1);
        Gapline z = LinePutTest.with(0, 4, 5, 6);
        Check.same("beyond beside others", z.beyond(0, 5, false), 1);
        Check.same("beyond beside others, in", z.beyond(0, 5, true), 2);
    }

    private static void between() {
        Gapline x = LinePutTest.with(0, 10, 20, 30);
        Check.same("between none counts", x.between(0, 10, 30, false, false), 1);
        Check.same("between low counts", x.between(0, 10, 30, true, false), 2);
        Check.same("between high counts", x.between(0, 10, 30, false, true), 2);
        Check.same("between both count", x.between(0, 10, 30, true, true), 3);
        Check.same("between bounds that are not there", x.between(0, 11, 29, true, true), 1);
        Check.same("between alike, both", x.between(0, 20, 20, true, true), 1);
        Check.same("between alike, low", x.between(0, 20, 20, true, false), 0);
        Check.same("between alike, high", x.between(0, 20, 20, false, true), 0);
        Check.same("between alike, none", x.between(0, 20, 20, false, false), 0);
        Check.same("between alike, not there", x.between(0, 21, 21, true, true), 0);
        Check.same("between of none", x.between(1, 0, 9, true, true), 0);
        Gapline y = LinePutTest.with(0, Check.LEAST, 0, Check.GREATEST);
        Check.same("between the ends", y.between(0, Check.LEAST, Check.GREATEST, false, false), 1);
        Check.same("between and the ends", y.between(0, Check.LEAST, Check.GREATEST, true, true), 3);
        Check.badArgument("between low above high", () -> x.between(0, 2, 1, true, true));
        Check.noLine("between line first", () -> x.between(-1, 2, 1, true, true));
    }

    private static void nth() {
        Gapline x = LinePutTest.with(0, 10, 20, 30);
        Check.same("nth 0", x.nth(0, 0, false), "10");
        Check.same("nth 1", x.nth(0, 1, false), "20");
        Check.same("nth 2", x.nth(0, 2, false), "30");
        Check.same("nth 3", x.nth(0, 3, false), "");
        Check.same("nth 0 back", x.nth(0, 0, true), "30");
        Check.same("nth 2 back", x.nth(0, 2, true), "10");
        Check.same("nth 3 back", x.nth(0, 3, true), "");
        Check.same("nth far", x.nth(0, Check.GREATEST, false), "");
        Check.same("nth far back", x.nth(0, Check.GREATEST, true), "");
        Check.same("nth of none", x.nth(1, 0, true), "");
        Check.badArgument("nth -1", () -> x.nth(0, -1, false));
        Check.badArgument("nth least", () -> x.nth(0, Check.LEAST, true));
        Check.noLine("nth line first", () -> x.nth(4, -1, true));
    }

    private static void chain() {
        Gapline x = LinePutTest.with(0, 10, 20, 30);
        Check.same("chain from below", x.chain(0, 0, 1), "10");
        Check.same("chain from a number of it", x.chain(0, 10, 1), "20");
        Check.same("chain from between", x.chain(0, 15, 2), "30");
        Check.same("chain behind the last one", x.chain(0, 15, 3), "");
        Check.same("chain from the last one", x.chain(0, 30, 1), "");
        Check.same("chain from the greatest number", x.chain(0, Check.GREATEST, 20), "");
        Check.same("chain of none", x.chain(1, 0, 1), "");
        Check.same("chain of 20", LinePutTest.full(0).chain(0, -1, 20), "190");
        Check.same("chain of 19", LinePutTest.full(0).chain(0, 0, 19), "190");
        Check.same("chain of 20 from its first", LinePutTest.full(0).chain(0, 0, 20), "");
        for (int bad : new int[] {0, -1, 21, Check.LEAST, Check.GREATEST}) {
            Check.badArgument("chain steps " + bad, () -> x.chain(0, 0, bad));
            Check.noLine("chain line first " + bad, () -> x.chain(4, 0, bad));
        }
    }

    private static void room() {
        Gapline x = LinePutTest.with(0, 10, 20, 35);
        Check.same("room of one that is not there", x.room(0, 12), "10");
        Check.same("room of one that is there", x.room(0, 20), "25");
        Check.same("room of the first", x.room(0, 10), "");
        Check.same("room of the last", x.room(0, 35), "");
        Check.same("room below all", x.room(0, 9), "");
        Check.same("room above all", x.room(0, 36), "");
        Check.same("room of none", x.room(1, 0), "");
        Gapline y = LinePutTest.with(0, Check.LEAST, Check.GREATEST);
        Check.same("room as wide as can be", y.room(0, 0), "4294967295");
        Check.same("room at the least one", y.room(0, Check.LEAST), "");
        Check.same("room at the greatest one", y.room(0, Check.GREATEST), "");
    }

    private static void widest() {
        Check.same("widest", LinePutTest.with(0, 1, 2, 9, 12).widest(0), "7@2");
        Check.same("widest, first of like ones", LinePutTest.with(0, -5, 0, 5, 6).widest(0), "5@-5");
        Check.same("widest at the end", LinePutTest.with(0, 0, 1, 3).widest(0), "2@1");
        Check.same("widest of numbers in a row", LinePutTest.with(0, 4, 5, 6).widest(0), "1@4");
        Check.same("widest of one", LinePutTest.with(0, 3).widest(0), "");
        Check.same("widest of none", new Gapline().widest(0), "");
        Gapline y = LinePutTest.with(0, Check.LEAST, Check.GREATEST);
        Check.same("widest there can be", y.widest(0), "4294967295@-2147483648");
        y.put(0, 0);
        Check.same("widest below 0", y.widest(0), "2147483648@-2147483648");
    }

    private static void spread() {
        Check.same("spread", LinePutTest.with(0, -5, 0, 7).spread(0), "12");
        Check.same("spread of one", LinePutTest.with(0, -5).spread(0), "0");
        Check.same("spread of none", new Gapline().spread(0), "");
        Check.same("spread there can be",
                LinePutTest.with(0, Check.LEAST, Check.GREATEST).spread(0), "4294967295");
        Check.same("spread with 0 behind", LinePutTest.with(0, 0, 100).spread(0), "100");
    }

    private static void text() {
        Gapline x = LinePutTest.with(0, 5, -1, 12);
        Check.same("text", x.text(0, false), "-1 5 12");
        Check.same("text back", x.text(0, true), "12 5 -1");
        Check.same("text of none", x.text(1, false), "");
        Check.same("text of none back", x.text(1, true), "");
        Check.same("text of one back", LinePutTest.with(0, 8).text(0, true), "8");
    }

    private static void holds() {
        Gapline x = LinePutTest.add(LinePutTest.with(0, 1, 2, 3), 1, 1, 3);
        Check.same("holds", x.holds(0, 1), true);
        Check.same("holds turned", x.holds(1, 0), false);
        Check.same("holds itself", x.holds(0, 0), true);
        Check.same("holds an empty one", x.holds(1, 2), true);
        Check.same("an empty one holds", x.holds(2, 1), false);
        Check.same("an empty one holds an empty one", x.holds(2, 3), true);
    }

    private static void areAlike() {
        Gapline x = LinePutTest.add(LinePutTest.with(0, 1, 2, 3), 1, 1, 3);
        Check.same("areAlike less", x.areAlike(0, 1), false);
        Check.same("areAlike more", x.areAlike(1, 0), false);
        x.put(1, 4);
        Check.same("areAlike as many, others", x.areAlike(0, 1), false);
        x.take(1, 4);
        x.put(1, 2);
        Check.same("areAlike", x.areAlike(0, 1), true);
        Check.same("areAlike itself", x.areAlike(1, 1), true);
        Check.same("areAlike empty ones", x.areAlike(2, 3), true);
        Check.same("areAlike with an empty one", x.areAlike(0, 3), false);
    }

    private static void wrongLines() {
        Gapline x = new Gapline();
        for (int bad : new int[] {-1, 4, Check.LEAST, Check.GREATEST}) {
            Check.noLine("size " + bad, () -> x.size(bad));
            Check.noLine("has " + bad, () -> x.has(bad, 1));
            Check.noLine("end " + bad, () -> x.end(bad, true));
            Check.noLine("near " + bad, () -> x.near(bad, 1, 0));
            Check.noLine("rank " + bad, () -> x.rank(bad, 1, true));
            Check.noLine("beyond " + bad, () -> x.beyond(bad, 1, true));
            Check.noLine("between " + bad, () -> x.between(bad, 1, 2, true, true));
            Check.noLine("nth " + bad, () -> x.nth(bad, 0, true));
            Check.noLine("chain " + bad, () -> x.chain(bad, 0, 1));
            Check.noLine("room " + bad, () -> x.room(bad, 0));
            Check.noLine("widest " + bad, () -> x.widest(bad));
            Check.noLine("spread " + bad, () -> x.spread(bad));
            Check.noLine("text " + bad, () -> x.text(bad, false));
            Check.noLine("holds " + bad, () -> x.holds(bad, 0));
            Check.noLine("holds other " + bad, () -> x.holds(0, bad));
            Check.noLine("areAlike " + bad, () -> x.areAlike(bad, 0));
            Check.noLine("areAlike other " + bad, () -> x.areAlike(0, bad));
        }
    }
}
