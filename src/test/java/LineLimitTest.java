/** Promises 2 to 27 on an empty LINE and a full one, and on a LINE with itself. */
public final class LineLimitTest {
    public static void main(String[] args) {
        emptyChanges();
        emptyAsked();
        emptyAndFull();
        emptyBoth();
        fullPut();
        fullGoes();
        fullAsked();
        fullCounted();
        fullRoom();
        itselfChanges();
        itselfAsked();
        fullAgain();
        Check.end();
    }

    /** Line 0 is empty, line 1 is full (0, 10, up to 190), line 2 is empty, too. */
    private static Gapline both() {
        return LinePutTest.full(1);
    }

    private static String ofFull() {
        return "0 10 20 30 40 50 60 70 80 90 100 110 120 130 140 150 160 170 180 190";
    }

    private static void emptyChanges() {
        for (int number : new int[] {Check.LEAST, -1, 0, Check.GREATEST}) {
            Check.same("2 put, empty " + number, both().put(0, number), 1);
            Kept.answers("3 take, empty " + number, both(), x -> x.take(0, number), 0);
            Kept.answers("6 cut below, empty " + number, both(), x -> x.cut(0, number, false), 0);
            Kept.answers("6 cut back, empty " + number, both(), x -> x.cut(0, number, true), 0);
        }
        Kept.answers("4 poll first, empty", both(), x -> x.poll(0, false), "");
        Kept.answers("4 poll last, empty", both(), x -> x.poll(0, true), "");
        Kept.answers("5 clear, empty", both(), x -> x.clear(0), 0);
        Kept.answers("7 cutBetween, empty", both(), x -> x.cutBetween(0, Check.LEAST, Check.GREATEST), 0);
    }

    private static void emptyAsked() {
        for (int number : new int[] {Check.LEAST, -1, 0, 10, Check.GREATEST}) {
            Kept.answers("13 has, empty " + number, both(), x -> x.has(0, number), false);
            Kept.answers("16 rank, empty " + number, both(), x -> x.rank(0, number, false), 0);
            Kept.answers("16 rank in, empty " + number, both(), x -> x.rank(0, number, true), 0);
            Kept.answers("17 beyond, empty " + number, both(), x -> x.beyond(0, number, false), 0);
            Kept.answers("17 beyond in, empty " + number, both(), x -> x.beyond(0, number, true), 0);
            Kept.answers("18 between alike, empty " + number,
                    both(), x -> x.between(0, number, number, true, true), 0);
            Kept.answers("20 chain, empty " + number, both(), x -> x.chain(0, number, 1), "");
            Kept.answers("21 room, empty " + number, both(), x -> x.room(0, number), "");
            for (int what = 0; what <= 3; what++) {
                int asked = what;
                Kept.answers("15 near, empty " + number, both(), x -> x.near(0, number, asked), "");
            }
        }
        Kept.answers("12 size, empty", both(), x -> x.size(0), 0);
        Kept.answers("14 end first, empty", both(), x -> x.end(0, false), "");
        Kept.answers("14 end last, empty", both(), x -> x.end(0, true), "");
        Kept.answers("18 between all, empty", both(),
                x -> x.between(0, Check.LEAST, Check.GREATEST, true, true), 0);
        Kept.answers("19 nth, empty", both(), x -> x.nth(0, 0, false), "");
        Kept.answers("19 nth back, empty", both(), x -> x.nth(0, 0, true), "");
        Kept.answers("19 nth far back, empty", both(), x -> x.nth(0, Check.GREATEST, true), "");
        Kept.answers("20 chain of 20, empty", both(), x -> x.chain(0, Check.LEAST, 20), "");
        Kept.answers("22 widest, empty", both(), x -> x.widest(0), "");
        Kept.answers("23 spread, empty", both(), x -> x.spread(0), "");
        Kept.answers("24 text, empty", both(), x -> x.text(0, false), "");
        Kept.answers("24 text back, empty", both(), x -> x.text(0, true), "");
        Check.same("27 look, empty", both().look(0, Check.LEAST, Check.GREATEST), 0);
    }

    private static void emptyAndFull() {
        Gapline x = both();
        Check.same("8 join, full to empty", x.join(0, 1), 20);
        Check.same("8 join, full to empty: text", x.text(0, false), ofFull());
        Check.same("8 join, full to empty: the other", x.text(1, false), ofFull());
        x = both();
        Check.same("11 copy, full to empty", x.copy(0, 1), 20);
        Check.same("11 copy, full to empty: text", x.text(0, false), ofFull());
        Check.same("11 copy, full to empty: the other", x.text(1, false), ofFull());
        x = both();
        Check.same("11 copy, empty to full", x.copy(1, 0), 0);
        Check.same("11 copy, empty to full: text", x.text(1, false), "");
        Check.same("11 copy, empty to full: space again", x.put(1, 5), 1);
        x = both();
        Check.same("10 common, full with empty", x.common(1, 0), 20);
        Check.same("10 common, full with empty: text", x.text(1, false), "");
        Kept.answers("8 join, empty to full", both(), y -> y.join(1, 0), 0);
        Kept.answers("9 less, full and empty", both(), y -> y.less(1, 0), 0);
        Kept.answers("9 less, empty and full", both(), y -> y.less(0, 1), 0);
        Kept.answers("10 common, empty with full", both(), y -> y.common(0, 1), 0);
        Kept.answers("25 holds, full an empty one", both(), y -> y.holds(1, 0), true);
        Kept.answers("25 holds, empty a full one", both(), y -> y.holds(0, 1), false);
        Kept.answers("26 areAlike, full and empty", both(), y -> y.areAlike(1, 0), false);
        Kept.answers("26 areAlike, empty and full", both(), y -> y.areAlike(0, 1), false);
    }

    private static void emptyBoth() {
        Kept.answers("8 join, both empty", both(), x -> x.join(0, 2), 0);
        Kept.answers("9 less, both empty", both(), x -> x.less(0, 2), 0);
        Kept.answers("10 common, both empty", both(), x -> x.common(0, 2), 0);
        Kept.answers("11 copy, both empty", both(), x -> x.copy(0, 2), 0);
        Kept.answers("25 holds, both empty", both(), x -> x.holds(0, 2), true);
        Kept.answers("26 areAlike, both empty", both(), x -> x.areAlike(0, 2), true);
    }

    private static void fullPut() {
        for (int missing = 0; missing <= 190; missing += 10) {
            Gapline x = LinePutTest.full(2);
            Check.same("3 take from a full line " + missing, x.take(2, missing), 1);
            Check.same("3 take leaves 19", x.size(2), 19);
            Check.same("2 put the 20th again " + missing, x.put(2, missing), 1);
            Check.same("2 put the 20th in order", x.text(2, false), ofFull());
        }
        Gapline y = LinePutTest.full(2);
        y.put(1, 5);
        Check.same("9 less 0 of a full line", y.less(2, 1), 0);
        Check.same("2 a full line is one line alone", y.put(1, 6), 1);
        Gapline z = new Gapline();
        for (int line = 0; line < 4; line++) {
            for (int i = 19; i >= 0; i--) {
                Check.same("2 put, all lines full", z.put(line, i * 7 - 70), 1);
            }
        }
        Check.same("50 house of all lines full", z.house(0), 80);
    }

    private static void fullGoes() {
        Gapline x = LinePutTest.full(2);
        Check.same("4 poll first, full", x.poll(2, false), "0");
        Check.same("4 poll last, 19", x.poll(2, true), "190");
        Check.same("4 poll leaves", x.size(2), 18);
        Check.same("5 clear, full", LinePutTest.full(2).clear(2), 20);
        Check.same("6 cut all below, full", LinePutTest.full(2).cut(2, 191, false), 20);
        Check.same("6 cut below the last, full", LinePutTest.full(2).cut(2, 190, false), 19);
        Check.same("6 cut below the first, full", LinePutTest.full(2).cut(2, 0, false), 0);
        Check.same("6 cut from the first on, full", LinePutTest.full(2).cut(2, 0, true), 20);
        Check.same("6 cut from the last on, full", LinePutTest.full(2).cut(2, 190, true), 1);
        Check.same("6 cut from behind the last on, full", LinePutTest.full(2).cut(2, 191, true), 0);
        Check.same("7 cutBetween all, full", LinePutTest.full(2).cutBetween(2, 0, 190), 20);
        Check.same("7 cutBetween all but the ends, full", LinePutTest.full(2).cutBetween(2, 1, 189), 18);
        Check.same("7 cutBetween the first, full", LinePutTest.full(2).cutBetween(2, 0, 9), 1);
        Check.same("7 cutBetween the last, full", LinePutTest.full(2).cutBetween(2, 181, 190), 1);
    }

    private static void fullAsked() {
        Gapline x = LinePutTest.full(2);
        Check.same("12 size, full", x.size(2), 20);
        Check.same("14 end first, full", x.end(2, false), "0");
        Check.same("14 end last, full", x.end(2, true), "190");
        Check.same("15 near at most, full", x.near(2, 999, 0), "190");
        Check.same("15 near at least, full", x.near(2, -999, 1), "0");
        Check.same("15 near below the first, full", x.near(2, 0, 2), "");
        Check.same("15 near above the last, full", x.near(2, 190, 3), "");
        Check.same("19 nth 19, full", x.nth(2, 19, false), "190");
        Check.same("19 nth 19 back, full", x.nth(2, 19, true), "0");
        Check.same("19 nth 20, full", x.nth(2, 20, false), "");
        Check.same("19 nth 20 back, full", x.nth(2, 20, true), "");
        for (int steps = 1; steps <= 20; steps++) {
            Check.same("20 chain, full, steps " + steps, x.chain(2, -1, steps), "" + (steps * 10 - 10));
            Check.same("20 chain, full, from 0, steps " + steps,
                    x.chain(2, 0, steps), steps == 20 ? "" : "" + steps * 10);
        }
        Check.same("24 text, full", x.text(2, false), ofFull());
        Check.same("24 text back, full", x.text(2, true),
                "190 180 170 160 150 140 130 120 110 100 90 80 70 60 50 40 30 20 10 0");
        Check.same("27 look, full", x.look(2, Check.LEAST, Check.GREATEST), 20);
    }

    private static void fullCounted() {
        Gapline x = LinePutTest.full(2);
        for (int i = 0; i < 20; i++) {
            Check.same("13 has, full", x.has(2, i * 10), true);
            Check.same("13 has not, full", x.has(2, i * 10 + 5), false);
            Check.same("16 rank, full", x.rank(2, i * 10, false), i);
            Check.same("16 rank in, full", x.rank(2, i * 10, true), i + 1);
            Check.same("17 beyond, full", x.beyond(2, i * 10, false), 19 - i);
            Check.same("17 beyond in, full", x.beyond(2, i * 10, true), 20 - i);
            Check.same("18 between, full", x.between(2, 0, i * 10, true, true), i + 1);
            Check.same("18 between without low, full", x.between(2, 0, i * 10, false, true), i);
            Check.same("18 between without high, full", x.between(2, 0, i * 10, true, false), i);
            Check.same("18 between without both, full", x.between(2, 0, i * 10, false, false), Math.max(0, i - 1));
            Check.same("18 between alike, full", x.between(2, i * 10, i * 10, true, true), 1);
        }
    }

    private static void fullRoom() {
        Gapline x = LinePutTest.full(2);
        Check.same("21 room, full", x.room(2, 10), "20");
        Check.same("21 room of one that is not there, full", x.room(2, 15), "10");
        Check.same("21 room of the first, full", x.room(2, 0), "");
        Check.same("21 room of the last, full", x.room(2, 190), "");
        Check.same("21 room ahead of the last, full", x.room(2, 180), "20");
        Check.same("22 widest, all gaps alike, full", x.widest(2), "10@0");
        x.take(2, 180);
        x.put(2, 200);
        Check.same("22 widest near the end, full", x.widest(2), "20@170");
        x.take(2, 190);
        x.put(2, -30);
        Check.same("22 widest at both ends, full", x.widest(2), "30@-30");
        Check.same("23 spread, full", x.spread(2), "230");
    }

    private static void itselfChanges() {
        Check.same("9 less, itself, full", both().less(1, 1), 20);
        Gapline x = both();
        x.less(1, 1);
        Check.same("9 less, itself, full: none left", x.text(1, false), "");
        Gapline one = LinePutTest.with(0, 5);
        Check.same("9 less, itself, one", one.less(0, 0), 1);
        Check.same("9 less, itself, one: none left", one.size(0), 0);
        Kept.answers("8 join, itself, empty", both(), y -> y.join(0, 0), 0);
        Kept.answers("9 less, itself, empty", both(), y -> y.less(0, 0), 0);
        Kept.answers("10 common, itself, empty", both(), y -> y.common(0, 0), 0);
        Kept.answers("11 copy, itself, empty", both(), y -> y.copy(0, 0), 0);
        Kept.answers("8 join, itself, full", both(), y -> y.join(1, 1), 0);
        Kept.answers("10 common, itself, full", both(), y -> y.common(1, 1), 0);
        Kept.answers("11 copy, itself, full", both(), y -> y.copy(1, 1), 20);
        Kept.answers("8 join, itself, ends", Rich.ends(), y -> y.join(0, 0), 0);
        Kept.answers("10 common, itself, ends", Rich.ends(), y -> y.common(0, 0), 0);
        Kept.answers("11 copy, itself, ends", Rich.ends(), y -> y.copy(0, 0), 2);
        Kept.answers("8 join, itself, under a window", Rich.object(), y -> y.join(0, 0), 0);
        Kept.answers("10 common, itself, under a window", Rich.object(), y -> y.common(0, 0), 0);
    }

    private static void itselfAsked() {
        for (int line = 0; line < 3; line++) {
            int asked = line;
            Kept.answers("25 holds, itself " + line, both(), x -> x.holds(asked, asked), true);
            Kept.answers("26 areAlike, itself " + line, both(), x -> x.areAlike(asked, asked), true);
        }
        Kept.answers("25 holds, itself, ends", Rich.ends(), x -> x.holds(0, 0), true);
        Kept.answers("26 areAlike, itself, ends", Rich.ends(), x -> x.areAlike(0, 0), true);
    }

    /** A line can be full, emptied and full again, with other numbers. */
    private static void fullAgain() {
        Gapline x = LinePutTest.full(0);
        x.clear(0);
        for (int i = 0; i < 20; i++) {
            Check.same("2 put after clear", x.put(0, -i), 1);
        }
        Check.same("2 put a 21st after clear", x.put(0, 1), -9);
        x.cut(0, -9, true);
        Check.same("6 cut leaves", x.size(0), 10);
        x.copy(1, 0);
        Check.same("11 copy has space", x.put(1, 7), 1);
        x.copy(2, 1);
        x.put(2, 8);
        Check.same("8 join of like ones and one more", x.join(0, 2), 2);
        Check.same("8 join then", x.text(0, true), "8 7 -10 -11 -12 -13 -14 -15 -16 -17 -18 -19");
    }
}
