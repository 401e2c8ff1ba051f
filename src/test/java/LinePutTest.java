/** Promises 2 to 11: numbers come to lines and go. */
public final class LinePutTest {
    public static void main(String[] args) {
        put();
        take();
        poll();
        clear();
        cut();
        cutBetween();
        join();
        less();
        common();
        copy();
        wrongLines();
        Check.end();
    }

    static Gapline with(int line, int... numbers) {
        return add(new Gapline(), line, numbers);
    }

    static Gapline add(Gapline x, int line, int... numbers) {
        for (int number : numbers) {
            x.put(line, number);
        }
        return x;
    }

    /** A line with as many numbers as may be: 0, 10, up to 190. */
    static Gapline full(int line) {
        Gapline x = new Gapline();
        for (int i = 0; i < 20; i++) {
            x.put(line, i * 10);
        }
        return x;
    }

    private static void put() {
        Gapline x = new Gapline();
        Check.same("put new", x.put(3, 5), 1);
        Check.same("put again", x.put(3, 5), 0);
        Check.same("put least", x.put(3, Check.LEAST), 1);
        Check.same("put greatest", x.put(3, Check.GREATEST), 1);
        Check.same("put between", x.put(3, 0), 1);
        Check.same("put order", x.text(3, false), "-2147483648 0 5 2147483647");
        Check.same("put on one line alone", x.size(0) + x.size(1) + x.size(2), 0);
        x = full(0);
        Check.same("put 20 came", x.size(0), 20);
        Check.same("put there in a full line", x.put(0, 190), 0);
        Check.same("put there is not refused", x.house(5), 0);
        Check.same("put new in a full line", x.put(0, 5), -9);
        Check.same("put refused counts", x.house(5), 1);
        Check.same("put refused changes nothing", x.has(0, 5), false);
        Check.same("put full line as it was", x.size(0), 20);
        Check.same("put on another line", x.put(1, 5), 1);
        x.take(0, 0);
        Check.same("put once there is space", x.put(0, 5), 1);
    }

    private static void take() {
        Gapline x = with(0, 1, 2, 3);
        Check.same("take not there", x.take(0, 4), 0);
        Check.same("take middle", x.take(0, 2), 1);
        Check.same("take again", x.take(0, 2), 0);
        Check.same("take leaves", x.text(0, false), "1 3");
        Check.same("take first", x.take(0, 1), 1);
        Check.same("take last", x.take(0, 3), 1);
        Check.same("take all gone", x.size(0), 0);
        Check.same("take of none", x.take(1, 1), 0);
        x = with(2, Check.LEAST, Check.GREATEST);
        Check.same("take least", x.take(2, Check.LEAST), 1);
        Check.same("take greatest", x.take(2, Check.GREATEST), 1);
        Check.same("take is never refused", x.house(5), 0);
    }

    private static void poll() {
        Gapline x = with(1, 7, -3, Check.LEAST);
        Check.same("poll last", x.poll(1, true), "7");
        Check.same("poll first", x.poll(1, false), "-2147483648");
        Check.same("poll leaves", x.text(1, false), "-3");
        Check.same("poll only one", x.poll(1, true), "-3");
        Check.same("poll none first", x.poll(1, false), "");
        Check.same("poll none last", x.poll(1, true), "");
        x.put(1, -9);
        Check.same("poll a number -9", x.poll(1, false), "-9");
        Check.same("poll a number -9 does not count", x.house(5), 0);
    }

    private static void clear() {
        Gapline x = full(2);
        x.put(1, 4);
        Check.same("clear", x.clear(2), 20);
        Check.same("clear empties", x.text(2, false), "");
        Check.same("clear again", x.clear(2), 0);
        Check.same("clear leaves other lines", x.size(1), 1);
        Check.same("clear makes space", x.put(2, 9), 1);
    }

    private static void cut() {
        Gapline x = with(0, -5, 0, 5, 10);
        Check.same("cut below a number", x.cut(0, 0, false), 1);
        Check.same("cut keeps that one", x.text(0, false), "0 5 10");
        Check.same("cut from it on", x.cut(0, 5, true), 2);
        Check.same("cut takes that one, too", x.text(0, false), "0");
        Check.same("cut nothing below", x.cut(0, 0, false), 0);
        Check.same("cut nothing from on", x.cut(0, 1, true), 0);
        x = with(1, Check.LEAST, 4, Check.GREATEST);
        Check.same("cut below least", x.cut(1, Check.LEAST, false), 0);
        Check.same("cut from greatest on", x.cut(1, Check.GREATEST, true), 1);
        Check.same("cut below between", x.cut(1, 3, false), 1);
        Check.same("cut from least on", x.cut(1, Check.LEAST, true), 1);
        Check.same("cut empty", x.cut(1, 0, true), 0);
    }

    private static void cutBetween() {
        Gapline x = with(0, 1, 2, 3, 4, 5, 6);
        Check.same("cutBetween both included", x.cutBetween(0, 2, 4), 3);
        Check.same("cutBetween leaves", x.text(0, false), "1 5 6");
        Check.same("cutBetween free numbers", x.cutBetween(0, 2, 4), 0);
        Check.same("cutBetween one", x.cutBetween(0, 5, 5), 1);
        Check.same("cutBetween all", x.cutBetween(0, Check.LEAST, Check.GREATEST), 2);
        add(x, 0, Check.LEAST, Check.GREATEST);
        Check.badArgument("cutBetween low above high", () -> x.cutBetween(0, 1, 0));
        Check.badArgument("cutBetween ends turned", () -> x.cutBetween(0, Check.GREATEST, Check.LEAST));
        Check.noLine("cutBetween line first", () -> x.cutBetween(4, 1, 0));
        Check.same("cutBetween changed nothing", x.size(0), 2);
        Check.same("cutBetween ends", x.cutBetween(0, Check.LEAST, Check.LEAST), 1);
    }

    private static void join() {
        Gapline x = add(with(0, 1, 3, 5), 1, 2, 3, 4);
        Check.same("join", x.join(0, 1), 2);
        Check.same("join text", x.text(0, false), "1 2 3 4 5");
        Check.same("join leaves the other", x.text(1, false), "2 3 4");
        Check.same("join again", x.join(0, 1), 0);
        Check.same("join itself", x.join(0, 0), 0);
        Check.same("join an empty one", x.join(0, 3), 0);
        Check.same("join to an empty one", x.join(3, 0), 5);
        Gapline y = add(full(0), 1, 0, 5);
        Check.same("join too many", y.join(0, 1), -9);
        Check.same("join refused changes nothing", y.has(0, 5), false);
        Check.same("join refused counts", y.house(5), 1);
        y.take(0, 190);
        Check.same("join to just 20", y.join(0, 1), 1);
        Check.same("join of what is there to a full one", y.join(0, 1), 0);
        Check.same("join a full one to itself", y.join(0, 0), 0);
        y.take(0, 5);
        add(y, 1, 6);
        Check.same("join none comes, not a part", y.join(0, 1), -9);
        Check.same("join none came", y.size(0), 19);
        Check.same("join of 20 to few", y.join(1, 0), -9);
        Check.same("join refused thrice", y.house(5), 3);
    }

    private static void less() {
        Gapline x = add(with(0, 1, 2, 3, 4), 1, 0, 2, 4, 6);
        Check.same("less", x.less(0, 1), 2);
        Check.same("less leaves", x.text(0, false), "1 3");
        Check.same("less leaves the other", x.text(1, false), "0 2 4 6");
        Check.same("less again", x.less(0, 1), 0);
        Check.same("less an empty one", x.less(0, 2), 0);
        Check.same("less of an empty one", x.less(2, 0), 0);
        Check.same("less itself", x.less(1, 1), 4);
        Check.same("less itself empties", x.size(1), 0);
    }

    private static void common() {
        Gapline x = add(with(0, 1, 2, 3, 4), 1, 0, 2, 4, 6);
        Check.same("common", x.common(0, 1), 2);
        Check.same("common leaves", x.text(0, false), "2 4");
        Check.same("common leaves the other", x.text(1, false), "0 2 4 6");
        Check.same("common itself", x.common(0, 0), 0);
        Check.same("common of itself leaves all", x.size(0), 2);
        Check.same("common of an empty one", x.common(2, 0), 0);
        Check.same("common with an empty one", x.common(0, 2), 2);
        Check.same("common empties", x.text(0, true), "");
    }

    private static void copy() {
        Gapline x = add(with(0, 1, 2), 1, 9);
        Check.same("copy", x.copy(1, 0), 2);
        Check.same("copy text", x.text(1, false), "1 2");
        x.put(0, 3);
        Check.same("copy is its own", x.text(1, false), "1 2");
        Check.same("copy of itself", x.copy(0, 0), 3);
        Check.same("copy of itself text", x.text(0, false), "1 2 3");
        Check.same("copy of an empty one", x.copy(0, 3), 0);
        Check.same("copy of an empty one empties", x.size(0), 0);
        x.look(1, 0, 9);
        x.copy(0, 1);
        Check.same("copy from the window's line leaves it", x.window(3), "2");
        Check.noLine("copy from no line", () -> x.copy(1, 4));
        Check.same("copy that throws leaves the window", x.window(0), "1");
        x.copy(1, 1);
        Check.same("copy of itself closes the window", x.window(0), "");
        x.look(1, 0, 9);
        x.copy(1, 0);
        Check.same("copy to the window's line closes it", x.window(0), "");
    }

    private static void wrongLines() {
        Gapline x = with(0, 1);
        for (int bad : new int[] {-1, 4, Check.LEAST, Check.GREATEST}) {
            Check.noLine("put " + bad, () -> x.put(bad, 1));
            Check.noLine("take " + bad, () -> x.take(bad, 1));
            Check.noLine("poll " + bad, () -> x.poll(bad, true));
            Check.noLine("clear " + bad, () -> x.clear(bad));
            Check.noLine("cut " + bad, () -> x.cut(bad, 1, true));
            Check.noLine("cutBetween " + bad, () -> x.cutBetween(bad, 1, 2));
            Check.noLine("join " + bad, () -> x.join(bad, 0));
            Check.noLine("join other " + bad, () -> x.join(0, bad));
            Check.noLine("less " + bad, () -> x.less(bad, 0));
            Check.noLine("less other " + bad, () -> x.less(0, bad));
            Check.noLine("common " + bad, () -> x.common(bad, 0));
            Check.noLine("common other " + bad, () -> x.common(0, bad));
            Check.noLine("copy " + bad, () -> x.copy(bad, 0));
            Check.noLine("copy from " + bad, () -> x.copy(0, bad));
        }
        Check.same("wrong lines change nothing", x.text(0, false), "1");
        Check.same("exceptions are not refusals", x.house(5), 0);
    }
}
