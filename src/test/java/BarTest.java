/** Promises 43 to 49: bars and the line that sweeps. */
public final class BarTest {
    public static void main(String[] args) {
        bar();
        lift();
        sweep();
        open();
        beside();
        neighbours();
        ofBar();
        Check.end();
    }

    /** Bars 9, 4 and 2 open, from the lowest one on; bar 5 ahead of the sweep, bar 6 behind it. */
    private static Gapline some() {
        Gapline x = new Gapline();
        x.bar(2, 0, 10, 7);
        x.bar(4, -5, 5, 7);
        x.bar(9, -1, 1, -7);
        x.bar(2, 0, 10, 8);
        x.bar(5, 1, 9, 0);
        x.bar(6, -9, 0, 0);
        return x;
    }

    private static void bar() {
        Gapline x = new Gapline();
        Check.same("bar open", x.bar(0, -1, 1, 5), 1);
        Check.same("bar begins at the sweep", x.bar(1, 0, 1, 5), 1);
        Check.same("bar ends at the sweep", x.bar(2, -1, 0, 5), 0);
        Check.same("bar ahead", x.bar(3, 1, 2, 5), 0);
        Check.same("bar as long as can be", x.bar(9, Check.LEAST, Check.GREATEST, Check.LEAST), 1);
        Check.same("bars that lie", x.house(2), 5);
        Check.same("bar in place of itself", x.bar(0, 5, 6, 1), 0);
        Check.same("bars that lie then", x.house(2), 5);
        Check.same("bar told anew", x.ofBar(0, 0) + x.ofBar(0, 1) + x.ofBar(0, 2), "561");
        Check.badArgument("bar of no length", () -> x.bar(0, 1, 1, 1));
        Check.badArgument("bar turned", () -> x.bar(0, Check.GREATEST, Check.LEAST, 1));
        Check.badArgument("bar not laid", () -> x.bar(7, 2, 1, 1));
        for (int bad : new int[] {-1, 10, Check.LEAST, Check.GREATEST}) {
            Check.noBar("bar " + bad, () -> x.bar(bad, 1, 2, 3));
            Check.noBar("bar number first " + bad, () -> x.bar(bad, 2, 1, 3));
        }
        Check.same("bar that throws changes nothing", x.ofBar(0, 0) + x.ofBar(7, 0), "5");
    }

    private static void lift() {
        Gapline x = some();
        Check.same("lift", x.lift(4), 1);
        Check.same("lift again", x.lift(4), 0);
        Check.same("lift leaves", x.open(), "9 2");
        Check.same("lift one that is not open", x.lift(5), 1);
        Check.same("lift one that never lay", x.lift(0), 0);
        Check.same("lift lies less", x.house(2), 3);
        Check.same("lift and lay", x.bar(4, 0, 1, -8), 1);
        Check.same("lift and lay order", x.open(), "4 9 2");
        for (int bad : new int[] {-1, 10, Check.LEAST, Check.GREATEST}) {
            Check.noBar("lift " + bad, () -> x.lift(bad));
        }
    }

    private static void sweep() {
        Gapline x = some();
        Check.same("sweep on", x.sweep(1), 3);
        Check.same("sweep on opens and closes", x.open(), "5 4 2");
        Check.same("sweep back", x.sweep(-1), 3);
        Check.same("sweep back opens and closes", x.open(), "9 6 4");
        Check.same("sweep to the least place", x.sweep(Check.LEAST), 0);
        Check.same("sweep to the greatest place", x.sweep(Check.GREATEST), 0);
        Check.same("sweep is told", x.house(4), Check.GREATEST);
        x.bar(0, Check.LEAST, Check.GREATEST, 0);
        Check.same("sweep to where it ends", x.sweep(Check.GREATEST), 0);
        Check.same("sweep to 1 less", x.sweep(Check.GREATEST - 1), 1);
        Check.same("sweep to where it begins", x.sweep(Check.LEAST), 1);
        Check.same("sweep to -9", x.sweep(-9), 2);
        Check.same("sweep at -9 is told", x.house(4), -9);
        Check.same("sweep at -9 is not refused", x.house(5), 0);
    }

    private static void open() {
        Gapline x = some();
        Check.same("open", x.open(), "9 4 2");
        x.bar(2, 0, 10, 7);
        Check.same("open, like ones by their numbers", x.open(), "9 2 4");
        x.bar(9, 0, 10, 7);
        Check.same("open, all alike", x.open(), "2 4 9");
        Check.same("open none", new Gapline().open(), "");
        Gapline y = new Gapline();
        for (int bar = 0; bar < 10; bar++) {
            y.bar(bar, 0, 1, -bar);
        }
        Check.same("open ten", y.open(), "9 8 7 6 5 4 3 2 1 0");
    }

    private static void beside() {
        Gapline x = some();
        x.bar(3, 0, 1, 7);
        Check.same("beside below", x.beside(8, true), 4);
        Check.same("beside below, like ones do not count", x.beside(7, true), 9);
        Check.same("beside below, none", x.beside(-7, true), -1);
        Check.same("beside below, not open", x.beside(6, true), 9);
        Check.same("beside above", x.beside(6, false), 3);
        Check.same("beside above, like ones do not count", x.beside(7, false), 2);
        Check.same("beside above, none", x.beside(8, false), -1);
        Check.same("beside above, not open", x.beside(-7, false), 3);
        Check.same("beside from the least height", x.beside(Check.LEAST, false), 9);
        Check.same("beside from the greatest height", x.beside(Check.GREATEST, true), 2);
        Check.same("beside without bars", new Gapline().beside(0, true), -1);
        x.bar(0, 0, 1, Check.LEAST);
        x.bar(1, 0, 1, Check.GREATEST);
        Check.same("beside at the least height", x.beside(Check.LEAST, true), -1);
        Check.same("beside at the greatest height", x.beside(Check.GREATEST, false), -1);
        Check.same("beside the least height", x.beside(Check.LEAST + 1, true), 0);
        Check.same("beside the greatest height", x.beside(Check.GREATEST - 1, false), 1);
    }

    private static void neighbours() {
        Gapline x = some();
        Check.same("neighbours", x.neighbours(4), "9 2");
        Check.same("neighbours of the lowest", x.neighbours(9), "- 4");
        Check.same("neighbours of the highest", x.neighbours(2), "4 -");
        Check.same("neighbours of one not open", x.neighbours(5), "");
        Check.same("neighbours of one that does not lie", x.neighbours(0), "");
        x.bar(1, 0, 1, 7);
        x.bar(7, 0, 1, 7);
        Check.same("neighbours of like heights", x.neighbours(4), "1 7");
        Gapline y = new Gapline();
        y.bar(0, 0, 1, 0);
        Check.same("neighbours of the only one", y.neighbours(0), "- -");
        for (int bad : new int[] {-1, 10, Check.LEAST, Check.GREATEST}) {
            Check.noBar("neighbours " + bad, () -> x.neighbours(bad));
        }
    }

    private static void ofBar() {
        Gapline x = some();
        Check.same("ofBar begins", x.ofBar(4, 0), "-5");
        Check.same("ofBar ends", x.ofBar(4, 1), "5");
        Check.same("ofBar height", x.ofBar(4, 2), "7");
        Check.same("ofBar open", x.ofBar(4, 3), "1");
        Check.same("ofBar not open", x.ofBar(5, 3), "0");
        x.lift(4);
        for (int what = 0; what <= 3; what++) {
            Check.same("ofBar lifted", x.ofBar(4, what), "");
            Check.same("ofBar never laid", x.ofBar(0, what), "");
        }
        for (int bad : new int[] {-1, 4, Check.LEAST, Check.GREATEST}) {
            Check.badArgument("ofBar what " + bad, () -> x.ofBar(2, bad));
            Check.badArgument("ofBar what, does not lie " + bad, () -> x.ofBar(0, bad));
            Check.noBar("ofBar number first " + bad, () -> x.ofBar(10, bad));
        }
        for (int bad : new int[] {-1, 10, Check.LEAST, Check.GREATEST}) {
            Check.noBar("ofBar " + bad, () -> x.ofBar(bad, 0));
        }
    }
}
