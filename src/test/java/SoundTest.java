import java.lang.reflect.Array;
import java.lang.reflect.Field;

/**
 * Promise 52, told of an object that is not sound: no call of the face makes one, so its rows are
 * broken by hand here. How the state is held is free: if it is held otherwise, this has to be
 * written anew, and says so.
 */
public final class SoundTest {
    public static void main(String[] args) throws Exception {
        try {
            lines();
            windows();
            stalls();
        } catch (NoSuchFieldException otherwise) {
            System.out.println("the state is held otherwise: no field " + otherwise.getMessage());
        }
        Check.end();
    }

    private static Object part(Object of, String name) throws Exception {
        Field field = of.getClass().getDeclaredField(name);
        field.setAccessible(true);
        return field.get(of);
    }

    private static void setCount(Object of, int count) throws Exception {
        Field field = of.getClass().getDeclaredField("count");
        field.setAccessible(true);
        field.setInt(of, count);
    }

    /** An object whose line holds just these numbers, in this order. */
    private static Gapline holding(int line, int... numbers) throws Exception {
        Gapline x = new Gapline();
        set(x, line, numbers);
        return x;
    }

    private static void set(Gapline x, int line, int... numbers) throws Exception {
        Object held = Array.get(part(x, "lines"), line);
        System.arraycopy(numbers, 0, (int[]) part(held, "numbers"), 0, numbers.length);
        setCount(held, numbers.length);
    }

    private static void expect(String what, Gapline x, boolean due) {
        Check.same("52 isSound, " + what, x.isSound(), due);
        Check.same("53 digest, " + what, x.digest(), WholeTest.told(x));
    }

    private static void lines() throws Exception {
        for (int line = 0; line < 4; line++) {
            String at = ", line " + line;
            expect("in order" + at, holding(line, 1, 2, 3), true);
            expect("ends in order" + at, holding(line, Check.LEAST, 0, Check.GREATEST), true);
            expect("the first two turned" + at, holding(line, 2, 1, 3), false);
            expect("the last two turned" + at, holding(line, 1, 3, 2), false);
            expect("all turned" + at, holding(line, 3, 2, 1), false);
            expect("two turned" + at, holding(line, 2, 1), false);
            expect("two alike" + at, holding(line, 1, 1), false);
            expect("the first two alike" + at, holding(line, 1, 1, 2), false);
            expect("the last two alike" + at, holding(line, 1, 2, 2), false);
            expect("the ends turned" + at, holding(line, Check.GREATEST, Check.LEAST), false);
            expect("one out of order" + at, holding(line, 1, 5, 2, 6), false);
            int[] full = new int[20];
            for (int i = 0; i < 20; i++) {
                full[i] = i * 3;
            }
            expect("full" + at, holding(line, full), true);
            full[19] = full[18];
            expect("full, the last two alike" + at, holding(line, full), false);
        }
    }

    private static void windows() throws Exception {
        Gapline x = LinePutTest.with(0, 1, 2, 3, 4);
        x.look(0, 1, 2);
        expect("a window on numbers in order", x, true);
        set(x, 0, 4, 1, 2, 3);
        expect("a window on numbers out of order", x, false);
        set(x, 0, 1, 2, 3, 4);
        expect("a window on numbers in order again", x, true);
    }

    private static Gapline stalled(int... bounds) throws Exception {
        Gapline x = new Gapline();
        Object held = part(x, "taken");
        int[] lows = (int[]) part(held, "lows");
        int[] highs = (int[]) part(held, "highs");
        for (int i = 0; i < bounds.length; i += 2) {
            lows[i / 2] = bounds[i];
            highs[i / 2] = bounds[i + 1];
        }
        setCount(held, bounds.length / 2);
        return x;
    }

    private static void stalls() throws Exception {
        expect("stalls side by side", stalled(0, 9, 10, 19, 30, 39), true);
        expect("stalls of all", stalled(Check.LEAST, -1, 0, Check.GREATEST), true);
        expect("stalls that meet in one number", stalled(0, 10, 10, 19), false);
        expect("stalls that meet", stalled(0, 12, 10, 19), false);
        expect("stalls alike", stalled(0, 9, 0, 9), false);
        expect("one stall in another", stalled(0, 30, 10, 19), false);
        expect("one stall in another behind it", stalled(10, 19, 0, 30), false);
        expect("the last two of three meet", stalled(-9, -1, 0, 10, 10, 19), false);
        expect("the first and the last of three meet", stalled(-9, 12, 30, 40, 10, 19), false);
    }
}
