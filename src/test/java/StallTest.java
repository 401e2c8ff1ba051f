/** Promises 35 to 42: stalls and stretches. */
public final class StallTest {
    public static void main(String[] args) {
        reserve();
        release();
        merge();
        stall();
        free();
        fit();
        isFree();
        stalls();
        Check.end();
    }

    /** Stalls 0..9, 10..19 and 30..39. */
    private static Gapline three() {
        Gapline x = new Gapline();
        x.reserve(30, 39);
        x.reserve(0, 9);
        x.reserve(10, 19);
        return x;
    }

    private static void reserve() {
        Gapline x = new Gapline();
        Check.same("reserve", x.reserve(5, 7), 1);
        Check.same("reserve behind", x.reserve(8, 8), 2);
        Check.same("reserve ahead", x.reserve(-3, 4), 3);
        Check.same("reserve in order", x.stalls(4), "-3..4 5..7 8..8");
        Check.same("reserve meets at its end", x.reserve(8, 20), -9);
        Check.same("reserve meets at its start", x.reserve(-9, -3), -9);
        Check.same("reserve meets inside", x.reserve(6, 6), -9);
        Check.same("reserve meets around", x.reserve(Check.LEAST, Check.GREATEST), -9);
        Check.same("reserve refused counts", x.house(5), 4);
        Check.same("reserve refused changes nothing", x.stalls(0), "3");
        Check.same("reserve to the ends", x.reserve(Check.LEAST, -4), 4);
        Check.same("reserve all", x.reserve(9, Check.GREATEST), 5);
        Check.badArgument("reserve low above high", () -> x.reserve(1, 0));
        Check.badArgument("reserve ends turned", () -> new Gapline().reserve(Check.GREATEST, Check.LEAST));
        Gapline y = Rich.sixteen();
        Check.same("reserve 16", y.stalls(0), "16");
        Check.same("reserve a 17th", y.reserve(1000, 1000), -9);
        Check.same("reserve a 17th counts", y.house(5), 1);
        y.release(0);
        Check.same("reserve once there is space", y.reserve(1000, 1000), 16);
        Check.same("reserve as wide as can be", new Gapline().reserve(Check.LEAST, Check.GREATEST), 1);
    }

    private static void release() {
        Gapline x = three();
        Check.same("release in none", x.release(20), "");
        Check.same("release by its end", x.release(19), "10");
        Check.same("release leaves", x.stalls(4), "0..9 30..39");
        Check.same("release again", x.release(19), "");
        Check.same("release by its start", x.release(30), "10");
        Check.same("release by its middle", x.release(5), "10");
        Check.same("release all gone", x.stalls(0), "0");
        x.reserve(Check.LEAST, Check.GREATEST);
        Check.same("release as wide as can be", x.release(0), "4294967296");
        x.reserve(7, 7);
        Check.same("release one number", x.release(7), "1");
        Check.same("release is not refused", x.house(5), 0);
    }

    private static void merge() {
        Gapline x = three();
        Check.same("merge", x.merge(5), 1);
        Check.same("merge made one", x.stalls(4), "0..19 30..39");
        Check.same("merge with free ones between", x.merge(0), 0);
        Check.same("merge of the last one", x.merge(39), 0);
        Check.same("merge in none", x.merge(20), -9);
        Check.same("merge refused counts", x.house(5), 1);
        Check.same("merge 0 changes nothing", x.stalls(0), "2");
        Gapline y = new Gapline();
        Check.same("merge without stalls", y.merge(0), -9);
        y.reserve(Check.LEAST, -1);
        y.reserve(0, Check.GREATEST);
        Check.same("merge of the last one at the end", y.merge(Check.GREATEST), 0);
        Check.same("merge to all", y.merge(Check.LEAST), 1);
        Check.same("merge to all text", y.stall(0), "-2147483648..2147483647");
        Gapline z = Rich.sixteen();
        z.reserve(9, 9);
        z.release(150);
        z.reserve(9, 9);
        Check.same("merge of many", z.merge(0), 1);
        Check.same("merge of many next", z.merge(9), 1);
        Check.same("merge of many text", z.stall(9), "0..18");
    }

    private static void stall() {
        Gapline x = three();
        Check.same("stall at its start", x.stall(10), "10..19");
        Check.same("stall at its end", x.stall(9), "0..9");
        Check.same("stall inside", x.stall(35), "30..39");
        Check.same("stall without", x.stall(29), "");
        Check.same("stall without, behind", x.stall(40), "");
        x.reserve(-7, -5);
        Check.same("stall below 0", x.stall(-6), "-7..-5");
        Check.same("stall of one object's none", new Gapline().stall(0), "");
    }

    private static void free() {
        Gapline x = three();
        Check.same("free ahead of all", x.free(-1), "-2147483648..-1");
        Check.same("free between", x.free(20), "20..29");
        Check.same("free between, at its end", x.free(29), "20..29");
        Check.same("free behind all", x.free(40), "40..2147483647");
        Check.same("free in a stall", x.free(9), "");
        Check.same("free without stalls", new Gapline().free(0), "-2147483648..2147483647");
        x.reserve(Check.LEAST, -2);
        x.reserve(41, Check.GREATEST);
        Check.same("free one number", x.free(-1), "-1..-1");
        Check.same("free one number behind", x.free(40), "40..40");
        Check.same("free at the least number", x.free(Check.LEAST), "");
        Check.same("free at the greatest number", x.free(Check.GREATEST), "");
    }

    private static void fit() {
        Gapline x = three();
        Check.same("fit without stalls", new Gapline().fit(Check.GREATEST), "-2147483648");
        Check.same("fit", x.fit(1), "-2147483648");
        x.reserve(Check.LEAST, -4);
        Check.same("fit first of several", x.fit(1), "-3");
        Check.same("fit just", x.fit(3), "-3");
        Check.same("fit second", x.fit(4), "20");
        Check.same("fit second just", x.fit(10), "20");
        Check.same("fit last", x.fit(11), "40");
        Check.same("fit last just", x.fit(2147483608), "40");
        Check.same("fit too much", x.fit(2147483609), "");
        Gapline y = new Gapline();
        y.reserve(Check.LEAST, Check.GREATEST);
        Check.same("fit nowhere", y.fit(1), "");
        for (int bad : new int[] {0, -1, Check.LEAST}) {
            Check.badArgument("fit " + bad, () -> x.fit(bad));
        }
    }

    private static void isFree() {
        Gapline x = three();
        Check.same("isFree a stretch", x.isFree(20, 29), true);
        Check.same("isFree from a stall on", x.isFree(19, 20), false);
        Check.same("isFree up to a stall", x.isFree(25, 30), false);
        Check.same("isFree around a stall", x.isFree(20, 40), false);
        Check.same("isFree inside a stall", x.isFree(3, 4), false);
        Check.same("isFree ahead", x.isFree(Check.LEAST, -1), true);
        Check.same("isFree behind", x.isFree(40, Check.GREATEST), true);
        Check.same("isFree all", x.isFree(Check.LEAST, Check.GREATEST), false);
        Check.same("isFree all without stalls", new Gapline().isFree(Check.LEAST, Check.GREATEST), true);
        Check.badArgument("isFree low above high", () -> x.isFree(1, 0));
    }

    private static void stalls() {
        Gapline x = three();
        Check.same("stalls how many", x.stalls(0), "3");
        Check.same("stalls size", x.stalls(1), "30");
        Check.same("stalls size of stretches", x.stalls(2), "4294967266");
        Check.same("stalls how many stretches", x.stalls(3), "3");
        Check.same("stalls texts", x.stalls(4), "0..9 10..19 30..39");
        Gapline y = new Gapline();
        Check.same("stalls none", y.stalls(0) + y.stalls(1) + y.stalls(4), "00");
        Check.same("stalls none, stretches", y.stalls(2) + " " + y.stalls(3), "4294967296 1");
        y.reserve(Check.LEAST, Check.GREATEST);
        Check.same("stalls all", y.stalls(0) + " " + y.stalls(1), "1 4294967296");
        Check.same("stalls all, stretches", y.stalls(2) + " " + y.stalls(3), "0 0");
        Gapline z = Rich.sixteen();
        Check.same("stalls 16 stretches", z.stalls(3), "17");
        for (int bad : new int[] {-1, 5, Check.LEAST, Check.GREATEST}) {
            Check.badArgument("stalls what " + bad, () -> x.stalls(bad));
        }
    }
}
