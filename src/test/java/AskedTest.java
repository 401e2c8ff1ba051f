/** Methods that only ask: their answers on a rich object, which they leave as it is. */
public final class AskedTest {
    public static void main(String[] args) {
        lines();
        pairs();
        window();
        stalls();
        bars();
        whole();
        lastCalls();
        Check.end();
    }

    private static void lines() {
        Kept.answers("12 size", Rich.object(), x -> x.size(1), 3);
        Kept.answers("13 has", Rich.object(), x -> x.has(1, 5), true);
        Kept.answers("13 has not", Rich.object(), x -> x.has(1, 6), false);
        Kept.answers("14 end first", Rich.object(), x -> x.end(1, false), "-9");
        Kept.answers("14 end last", Rich.object(), x -> x.end(1, true), "7");
        Kept.answers("15 near", Rich.object(), x -> x.near(1, 5, 2), "-9");
        Kept.answers("16 rank", Rich.object(), x -> x.rank(1, 5, true), 2);
        Kept.answers("17 beyond", Rich.object(), x -> x.beyond(1, 5, false), 1);
        Kept.answers("18 between", Rich.object(), x -> x.between(1, -9, 7, true, false), 2);
        Kept.answers("19 nth", Rich.object(), x -> x.nth(1, 1, true), "5");
        Kept.answers("20 chain", Rich.object(), x -> x.chain(1, -20, 3), "7");
        Kept.answers("21 room", Rich.object(), x -> x.room(1, 5), "16");
        Kept.answers("22 widest", Rich.object(), x -> x.widest(1), "14@-9");
        Kept.answers("23 spread", Rich.object(), x -> x.spread(1), "16");
        Kept.answers("24 text", Rich.object(), x -> x.text(1, false), "-9 5 7");
        Kept.answers("24 text back", Rich.object(), x -> x.text(1, true), "7 5 -9");
    }

    private static void pairs() {
        Kept.answers("25 holds not", Rich.object(), x -> x.holds(0, 1), false);
        Kept.answers("25 holds an empty one", Rich.object(), x -> x.holds(0, 2), true);
        Kept.answers("26 areAlike not", Rich.object(), x -> x.areAlike(1, 3), false);
        Gapline y = Rich.object();
        y.copy(2, 1);
        Kept.answers("26 areAlike", y, x -> x.areAlike(1, 2), true);
        Kept.answers("25 holds", y, x -> x.holds(1, 2), true);
    }

    private static void window() {
        Kept.answers("32 windowNear", Rich.object(), x -> x.windowNear(200, 0), "90");
        Kept.answers("33 windowRank", Rich.object(), x -> x.windowRank(50), 2);
        Kept.answers("34 window line", Rich.object(), x -> x.window(0), "0");
        Kept.answers("34 window least", Rich.object(), x -> x.window(1), "25");
        Kept.answers("34 window greatest", Rich.object(), x -> x.window(2), "95");
        Kept.answers("34 window how many", Rich.object(), x -> x.window(3), "7");
    }

    private static void stalls() {
        Kept.answers("38 stall", Rich.object(), x -> x.stall(12), "10..19");
        Kept.answers("38 stall without", Rich.object(), x -> x.stall(20), "");
        Kept.answers("39 free", Rich.object(), x -> x.free(20), "20..29");
        Kept.answers("39 free without", Rich.object(), x -> x.free(12), "");
        Kept.answers("40 fit", Rich.object(), x -> x.fit(10), "-2147483647");
        Kept.answers("41 isFree", Rich.object(), x -> x.isFree(20, 29), true);
        Kept.answers("41 isFree not", Rich.object(), x -> x.isFree(20, 30), false);
        Kept.answers("42 stalls", Rich.object(), x -> x.stalls(1), "32");
        Kept.answers("42 stretches", Rich.object(), x -> x.stalls(2), "4294967264");
        Kept.answers("42 how many stretches", Rich.object(), x -> x.stalls(3), "3");
        Kept.answers("36 release in none", Rich.object(), x -> x.release(20), "");
    }

    private static void bars() {
        Kept.answers("46 open", Rich.object(), x -> x.open(), "1 0 3");
        Kept.answers("47 beside below", Rich.object(), x -> x.beside(6, true), 1);
        Kept.answers("47 beside above", Rich.object(), x -> x.beside(-6, false), 0);
        Kept.answers("48 neighbours", Rich.object(), x -> x.neighbours(0), "1 3");
        Kept.answers("48 neighbours, not open", Rich.object(), x -> x.neighbours(4), "");
        Kept.answers("49 ofBar", Rich.object(), x -> x.ofBar(4, 0), "5");
        Kept.answers("49 ofBar, does not lie", Rich.object(), x -> x.ofBar(2, 0), "");
        Kept.answers("44 lift, does not lie", Rich.object(), x -> x.lift(2), 0);
        Kept.answers("45 sweep to where it is", Rich.object(), x -> x.sweep(4), 3);
        Kept.answers("43 bar laid as it lies", Rich.object(), x -> x.bar(3, -9, 9, 6), 1);
    }

    private static void whole() {
        int[] due = {26, 5, 5, 3, 4, 1, 2};
        for (int what = 0; what <= 6; what++) {
            int asked = what;
            Kept.answers("50 house " + what, Rich.object(), x -> x.house(asked), due[asked]);
        }
        Kept.answers("52 isSound", Rich.object(), x -> x.isSound(), true);
        Kept.answers("53 digest", Rich.object(), x -> x.digest(), WholeTest.told(Rich.object()));
    }

    /** The dearest texts, asked for until the 512th call, are told the same then. */
    private static void lastCalls() {
        Gapline x = new Gapline();
        StringBuilder due = new StringBuilder();
        for (int i = 0; i < 20; i++) {
            x.put(1, Check.LEAST + i);
            due.append(i == 0 ? "" : " ").append(Check.LEAST + i);
        }
        x.look(1, Check.LEAST, Check.GREATEST);
        for (int call = 22; call <= 511; call++) {
            Check.same("24 text at call " + call, call % 2 == 0 ? x.text(1, false) : x.window(4), due.toString());
        }
        Check.same("2 put at call 512", x.put(1, 0), -9);
        Gapline y = new Gapline();
        for (int call = 1; call <= 511; call++) {
            Check.same("2 put and take at call " + call, call % 2 == 1 ? y.put(0, 3) : y.take(0, 3), 1);
        }
        Check.same("3 take at call 512", y.take(0, 3), 1);
    }
}
