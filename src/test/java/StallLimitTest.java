/** Promises 35 to 42 without a STALL, with the most STALLS, and with no FREE number left. */
public final class StallLimitTest {
    public static void main(String[] args) {
        none();
        sixteen();
        sixteenAsked();
        spaceAgain();
        tiled();
        tiledMerges();
        mergeOfMany();
        meets();
        releases();
        Check.end();
    }

    private static void none() {
        Kept.answers("40 fit, none", new Gapline(), x -> x.fit(1), "-2147483648");
        Kept.answers("41 isFree, none", new Gapline(), x -> x.isFree(Check.LEAST, Check.GREATEST), true);
        String[] due = {"0", "0", "4294967296", "1", ""};
        for (int what = 0; what <= 4; what++) {
            int asked = what;
            Kept.answers("42 stalls, none " + what, new Gapline(), x -> x.stalls(asked), due[what]);
        }
        Gapline again = Rich.taken();
        again.release(0);
        for (int what = 0; what <= 4; what++) {
            Check.same("42 stalls, none again " + what, again.stalls(what), due[what]);
        }
        String[] all = {"1", "4294967296", "0", "0", "-2147483648..2147483647"};
        for (int what = 0; what <= 4; what++) {
            int asked = what;
            Kept.answers("42 stalls, one of all " + what, Rich.taken(), x -> x.stalls(asked), all[what]);
        }
        Kept.answers("40 fit, one of all", Rich.taken(), x -> x.fit(1), "");
        Kept.answers("41 isFree, one of all", Rich.taken(), x -> x.isFree(Check.LEAST, Check.GREATEST), false);
    }

    private static void sixteen() {
        Gapline x = new Gapline();
        for (int i = 0; i < 16; i++) {
            // From the last one down and up again, so that each lies ahead of or behind others.
            int at = i % 2 == 0 ? i : -i;
            Check.same("35 reserve, how many then", x.reserve(at * 10, at * 10 + 5), i + 1);
        }
        Kept.refused("35 reserve, a 17th", x, y -> y.reserve(1000, 1000));
        Check.same("42 stalls, 16", x.stalls(0), "16");
        Check.same("50 house, 16 stalls", x.house(1), 16);
        Check.same("42 stalls, 16, in order", x.stalls(4), "-150..-145 -130..-125 -110..-105 -90..-85 -70..-65"
                + " -50..-45 -30..-25 -10..-5 0..5 20..25 40..45 60..65 80..85 100..105 120..125 140..145");
    }

    private static void sixteenAsked() {
        Gapline x = Rich.sixteen();
        for (int i = 0; i < 16; i++) {
            String due = i * 10 + ".." + (i * 10 + 8);
            Check.same("38 stall, 16, least", x.stall(i * 10), due);
            Check.same("38 stall, 16, greatest", x.stall(i * 10 + 8), due);
            String free = i * 10 + 9 + ".." + (i == 15 ? "2147483647" : "" + (i * 10 + 9));
            Check.same("39 free, 16, behind", x.free(i * 10 + 9), free);
            Check.same("38 stall, 16, free", x.stall(i * 10 + 9), "");
            Check.same("39 free, 16, taken", x.free(i * 10 + 8), "");
            Check.same("41 isFree, 16", x.isFree(i * 10 + 9, i * 10 + 9), true);
            Check.same("41 isFree, 16, taken", x.isFree(i * 10 + 8, i * 10 + 9), false);
            Check.same("37 merge, 16, free ones between", x.merge(i * 10), 0);
        }
        Check.same("39 free, 16, ahead of all", x.free(-1), "-2147483648..-1");
        Check.same("42 stalls, 16, size", x.stalls(1), "144");
        Check.same("42 stalls, 16, stretches' size", x.stalls(2), "4294967152");
        Check.same("42 stalls, 16, stretches", x.stalls(3), "17");
    }

    private static void spaceAgain() {
        Gapline x = Rich.sixteen();
        x.release(75);
        Check.same("35 reserve, one released", x.reserve(70, 79), 16);
        Kept.refused("35 reserve, 16 again", x, y -> y.reserve(9, 9));
        Check.same("37 merge, 16", x.merge(79), 1);
        Check.same("37 merge, 16, text", x.stall(75), "70..88");
        Check.same("35 reserve, two merged", x.reserve(9, 9), 16);
        Kept.refused("35 reserve, 16 once more", x, y -> y.reserve(19, 19));
        x.release(0);
        x.release(150);
        Check.same("35 reserve, two released", x.reserve(-5, -5), 15);
        Check.same("35 reserve, two released, second", x.reserve(-7, -7), 16);
    }

    /** Sixteen stalls of 268435456 numbers each: no number is free. */
    private static void tiled() {
        String[] due = {"16", "4294967296", "0", "0"};
        for (int what = 0; what <= 3; what++) {
            int asked = what;
            Kept.answers("42 stalls, no free number " + what, Rich.tiled(), x -> x.stalls(asked), due[what]);
        }
        Kept.answers("40 fit, no free number", Rich.tiled(), x -> x.fit(1), "");
        Kept.answers("39 free, no free number", Rich.tiled(), x -> x.free(0), "");
        Kept.refused("35 reserve, no free number", Rich.tiled(), x -> x.reserve(0, 0));
        Kept.answers("38 stall, no free number", Rich.tiled(), x -> x.stall(-1), "-268435456..-1");
        Kept.answers("52 isSound, no free number", Rich.tiled(), x -> x.isSound(), true);
        Gapline y = Rich.tiled();
        Check.same("36 release, the least ones", y.release(Check.LEAST), "268435456");
        Check.same("39 free, the least ones", y.free(Check.LEAST), "-2147483648..-1879048193");
        Check.same("36 release, the greatest ones", y.release(Check.GREATEST), "268435456");
        Check.same("39 free, the greatest ones", y.free(Check.GREATEST), "1879048192..2147483647");
        Check.same("40 fit, just", y.fit(268435456), "-2147483648");
        Check.same("40 fit, 1 too much", y.fit(268435457), "");
    }

    private static void tiledMerges() {
        Gapline x = Rich.tiled();
        for (int left = 15; left >= 1; left--) {
            Check.same("37 merge, no free number", x.merge(Check.LEAST), 1);
            Check.same("37 merge, how many then", x.stalls(0), "" + left);
            Check.same("37 merge, size as it was", x.stalls(1), "4294967296");
        }
        Check.same("37 merge, one of all", x.stalls(4), "-2147483648..2147483647");
        Check.same("37 merge, one of all, no next", x.merge(Check.LEAST), 0);
        Check.same("37 merge is not refused", x.house(5), 0);
    }

    private static void mergeOfMany() {
        Gapline x = new Gapline();
        x.reserve(10, 19);
        x.reserve(20, 29);
        x.reserve(30, 39);
        x.reserve(41, 49);
        Check.same("37 merge with the next one behind, not ahead", x.merge(25), 1);
        Check.same("37 merge leaves the others", x.stalls(4), "10..19 20..39 41..49");
        Kept.answers("37 merge, one free between", x, y -> y.merge(39), 0);
        x.reserve(40, 40);
        Check.same("37 merge, that one taken", x.merge(39), 1);
        Check.same("37 merge to the next one alone", x.stalls(4), "10..19 20..40 41..49");
        Check.same("37 merge by the least", x.merge(10), 1);
        Check.same("37 merge by the greatest", x.merge(40), 1);
        Check.same("37 merge, one left", x.stalls(4), "10..49");
        Check.same("36 release of all that were merged", x.release(30), "40");
        Check.same("36 release, none left", x.stalls(0), "0");
    }

    /** Ahead of, at and behind a stall 10..19, with each length that meets it or just does not. */
    private static void meets() {
        for (int low = 5; low <= 25; low++) {
            for (int high = low; high <= 25; high++) {
                Gapline x = new Gapline();
                x.reserve(10, 19);
                boolean isMet = low <= 19 && high >= 10;
                Check.same("41 isFree " + low + " " + high, x.isFree(low, high), !isMet);
                Check.same("35 reserve " + low + " " + high, x.reserve(low, high), isMet ? -9 : 2);
                Check.same("50 refused " + low + " " + high, x.house(5), isMet ? 1 : 0);
            }
        }
    }

    private static void releases() {
        for (int number = 0; number < 158; number++) {
            Gapline x = Rich.sixteen();
            boolean isIn = number % 10 != 9;
            Check.same("36 release, 16, " + number, x.release(number), isIn ? "9" : "");
            Check.same("36 release, how many then", x.stalls(0), isIn ? "15" : "16");
            Check.same("36 release, in no stall then", x.stall(number), "");
        }
    }
}
