/** Objects with something of each kind in them, and those at the document's limits. */
final class Rich {
    private Rich() {
    }

    /**
     * Line 0 is full (0, 10, up to 190), with a window from 25 to 95; line 1 has -9, 5, 7; line 2 is
     * empty; line 3 has both ends and 0. Stalls lie at both ends and at 0..9, 10..19, 30..39. With
     * the sweep at 4, bars 1, 0 and 3 are open, from the lowest one on; bar 4 is ahead of it, bar 5
     * behind it. One call was refused, and one knocked twice.
     */
    static Gapline object() {
        Gapline x = LinePutTest.full(0);
        LinePutTest.add(x, 1, 5, 7, -9);
        LinePutTest.add(x, 3, Check.LEAST, 0, Check.GREATEST);
        x.look(0, 25, 95);
        x.reserve(0, 9);
        x.reserve(10, 19);
        x.reserve(30, 39);
        x.reserve(Check.LEAST, Check.LEAST);
        x.reserve(Check.GREATEST, Check.GREATEST);
        x.bar(0, 0, 10, 6);
        x.bar(1, 4, 5, -6);
        x.bar(3, -9, 9, 6);
        x.bar(4, 5, 6, 1);
        x.bar(5, 3, 4, 2);
        x.sweep(4);
        x.put(0, 5);
        x.knock();
        x.knock();
        return x;
    }

    /** A line 0 with both ends. */
    static Gapline ends() {
        return LinePutTest.with(0, Check.LEAST, Check.GREATEST);
    }

    /** Line 1 with 10, 20, up to 50, and a window from 15 to 40 over it. */
    static Gapline opened() {
        Gapline x = LinePutTest.with(1, 10, 20, 30, 40, 50);
        x.look(1, 15, 40);
        return x;
    }

    /** A window that was opened over line 1, which has 1, 2, 3, and that copy() closed. */
    static Gapline shut() {
        Gapline x = LinePutTest.with(1, 1, 2, 3);
        x.look(1, 0, 9);
        x.copy(1, 1);
        return x;
    }

    /** A window from 11 to 19 over line 1, which has 10 and 20. */
    static Gapline blank() {
        Gapline x = LinePutTest.with(1, 10, 20);
        x.look(1, 11, 19);
        return x;
    }

    /** One stall of all numbers. */
    static Gapline taken() {
        Gapline x = new Gapline();
        x.reserve(Check.LEAST, Check.GREATEST);
        return x;
    }

    /** As many stalls as may be: 0..8, 10..18, up to 150..158. */
    static Gapline sixteen() {
        Gapline x = new Gapline();
        for (int i = 0; i < 16; i++) {
            x.reserve(i * 10, i * 10 + 8);
        }
        return x;
    }

    /** Sixteen stalls that leave no number free, laid from the last one on. */
    static Gapline tiled() {
        Gapline x = new Gapline();
        for (int i = 15; i >= 0; i--) {
            int low = Check.LEAST + i * (1 << 28);
            x.reserve(low, low + ((1 << 28) - 1));
        }
        return x;
    }

    /** All ten bars, open from -100 to 99, bar 0 the highest one, at heights 0, -1, down to -9. */
    static Gapline ten() {
        Gapline x = new Gapline();
        for (int bar = 0; bar < 10; bar++) {
            x.bar(bar, -100, 100, -bar);
        }
        return x;
    }
}
