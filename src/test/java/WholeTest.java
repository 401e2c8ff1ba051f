/** Promises 1 and 50 to 53: a new object, house, knock, isSound and digest. */
public final class WholeTest {
    public static void main(String[] args) {
        newObject();
        house();
        refusals();
        knock();
        isSound();
        digestOfNew();
        digestOfEach();
        digestOrder();
        longRun();
        Check.end();
    }

    private static void newObject() {
        Gapline x = new Gapline();
        for (int line = 0; line < 4; line++) {
            Check.same("new line " + line, x.size(line), 0);
        }
        for (int what = 0; what <= 6; what++) {
            Check.same("new house " + what, x.house(what), 0);
        }
        Check.same("new window", x.window(0), "");
        Check.same("new stalls", x.stalls(0), "0");
        Check.same("new bars", x.open(), "");
        x.put(0, 1);
        x.reserve(0, 1);
        x.bar(0, 0, 1, 2);
        x.sweep(5);
        x.knock();
        Gapline y = new Gapline();
        Check.same("objects share nothing", y.size(0) + y.house(1) + y.house(2) + y.house(4) + y.house(6), 0);
    }

    private static void house() {
        Gapline x = LinePutTest.add(LinePutTest.with(0, 1, 2), 3, 1, 5, 7);
        x.reserve(0, 5);
        x.reserve(7, 7);
        x.bar(1, 0, 5, 0);
        x.bar(2, 3, 5, 0);
        x.bar(3, -4, 0, 0);
        x.sweep(4);
        x.reserve(7, 8);
        x.knock();
        x.knock();
        x.knock();
        int[] due = {5, 2, 3, 2, 4, 1, 3};
        for (int what = 0; what <= 6; what++) {
            Check.same("house " + what, x.house(what), due[what]);
        }
        for (int bad : new int[] {-1, 7, Check.LEAST, Check.GREATEST}) {
            Check.badArgument("house " + bad, () -> x.house(bad));
        }
        Check.same("house is not a refusal", x.house(5), 1);
    }

    private static void refusals() {
        Gapline x = LinePutTest.full(0);
        x.put(1, 5);
        int[] told = {
            x.put(0, 5), x.join(0, 1), x.narrow(0, 0), x.windowPut(0), x.windowTake(0),
            x.windowRank(0), x.merge(0), x.reserve(1, 1) - 10, x.reserve(1, 1),
        };
        for (int i = 0; i < told.length; i++) {
            Check.same("refused " + i, told[i], -9);
        }
        Check.same("refused in all", x.house(5), 8);
        x.sweep(-9);
        x.put(2, -9);
        Check.same("a number -9", x.end(2, false), "-9");
        Check.same("a place -9", x.house(4), -9);
        Check.same("numbers -9 do not count", x.house(5), 8);
    }

    private static void knock() {
        Gapline x = new Gapline();
        Check.same("knock first", x.knock(), 1);
        Check.same("knock second", x.knock(), 2);
        Check.same("knock told", x.house(6), 2);
    }

    private static void isSound() {
        Gapline x = new Gapline();
        Check.same("isSound new", x.isSound(), true);
        LinePutTest.add(x, 0, Check.LEAST, 0, Check.GREATEST);
        x.look(0, 0, Check.GREATEST);
        x.reserve(Check.LEAST, -1);
        x.reserve(0, Check.GREATEST);
        x.bar(0, Check.LEAST, Check.GREATEST, 3);
        x.bar(1, Check.LEAST, Check.GREATEST, 3);
        x.bar(2, 0, 1, -3);
        Check.same("isSound full of ends", x.isSound(), true);
        x.sweep(Check.LEAST);
        Check.same("isSound at the least place", x.isSound(), true);
        x.sweep(Check.GREATEST);
        Check.same("isSound at the greatest place", x.isSound(), true);
        Gapline y = LinePutTest.full(3);
        y.look(3, 50, 60);
        Check.same("isSound of a full line", y.isSound(), true);
    }

    private static long mix(long d, long... values) {
        long mixed = d;
        for (long value : values) {
            mixed = mixed * 31 + value;
        }
        return mixed;
    }

    private static long mix(long d, String text) {
        long mixed = d;
        for (int i = 0; i < text.length(); i++) {
            mixed = mixed * 31 + text.charAt(i);
        }
        return mixed;
    }

    private static void digestOfNew() {
        long d = mix(7835, 0, 0, 0, 0, 0, 0, 0);
        d = mix(d, 0, 0, 0, 0);
        d = mix(d, "0" + "0" + "4294967296" + "1");
        Check.same("digest of a new one", new Gapline().digest(), mix(d, 1));
    }

    private static void digestOfEach() {
        Gapline x = LinePutTest.add(LinePutTest.with(0, 3, -1), 2, 8);
        x.look(0, 0, 9);
        x.reserve(-2, 4);
        x.bar(7, -3, -1, 6);
        x.bar(1, -3, 2, 5);
        x.sweep(-2);
        x.knock();
        x.merge(5);
        long d = mix(7835, 3, 1, 2, 2, -2, 1, 1);
        d = mix(mix(d, 2), "-1 3" + "4@-1" + "4");
        d = mix(d, 0);
        d = mix(mix(d, 1), "8" + "0");
        d = mix(d, 0);
        d = mix(d, "0" + "0" + "9" + "1" + "3");
        d = mix(d, "1" + "7" + "4294967289" + "2" + "-2..4");
        d = mix(d, "1 7" + "-3" + "2" + "5" + "1" + "-3" + "-1" + "6" + "1");
        Check.same("digest of some", x.digest(), mix(d, 1));
        Check.same("digest changes nothing", x.digest(), mix(d, 1));
    }

    /** The digest told by the other methods, on lines, stalls and bars with numbers of any length. */
    private static void digestOrder() {
        Gapline x = LinePutTest.full(1);
        LinePutTest.add(x, 3, Check.LEAST, Check.GREATEST, -1);
        x.look(3, Check.LEAST, 0);
        for (int i = 0; i < 16; i++) {
            x.reserve(-2147483647 + i * 200000000, -2147483647 + i * 200000000 + i);
        }
        for (int bar = 0; bar < 10; bar++) {
            x.bar(bar, Check.LEAST + bar, Check.GREATEST - bar, -bar % 3);
        }
        x.sweep(-1234567890);
        Check.same("digest by the others", x.digest(), told(x));
    }

    static long told(Gapline x) {
        long d = 7835;
        for (int what = 0; what <= 6; what++) {
            d = mix(d, x.house(what));
        }
        for (int line = 0; line < 4; line++) {
            d = mix(mix(d, x.size(line)), x.text(line, false));
            d = mix(mix(d, x.widest(line)), x.spread(line));
        }
        for (int what = 0; what <= 4; what++) {
            d = mix(d, x.window(what));
        }
        for (int what = 0; what <= 4; what++) {
            d = mix(d, x.stalls(what));
        }
        d = mix(d, x.open());
        for (int bar = 0; bar < 10; bar++) {
            for (int what = 0; what <= 3; what++) {
                d = mix(d, x.ofBar(bar, what));
            }
        }
        return mix(d, x.isSound() ? 1 : 0);
    }

    private static void longRun() {
        Gapline x = new Gapline();
        for (int i = 0; i < 511; i++) {
            x.knock();
        }
        Check.same("the 512th call", x.house(6), 511);
    }
}
