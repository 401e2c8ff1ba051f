import java.util.List;

/** Long runs of calls of every method, each answer compared with the model's, and the digest, too. */
public final class ModelTest {
    private static final String[] NAMES = {
        "put", "take", "poll", "clear", "cut", "cutBetween", "join", "less", "common", "copy", "size",
        "has", "end", "near", "rank", "beyond", "between", "nth", "chain", "room", "widest", "spread",
        "text", "holds", "areAlike", "look", "narrow", "windowPut", "windowTake", "windowPoll",
        "windowNear", "windowRank", "window", "reserve", "release", "merge", "stall", "free", "fit",
        "isFree", "stalls", "bar", "lift", "sweep", "open", "beside", "neighbours", "ofBar", "house",
        "knock", "isSound", "digest",
    };
    /** Calls that fill the object come oftener, as else the limits would hardly be met. */
    private static final String[] FILLING = {"put", "put", "put", "windowPut", "reserve", "bar", "look"};
    /** Every other run hardly makes these: lines become full there. */
    private static final List<String> EMPTYING =
            List.of("clear", "cut", "cutBetween", "less", "common", "copy", "poll");
    private static final int[] ENDS = {
        Check.LEAST, Check.LEAST + 1, Check.GREATEST - 1, Check.GREATEST, -1, 0, 1,
    };
    private static final int RUNS = 400;
    private static final int CALLS = 256;

    private final Gapline gapline = new Gapline();
    private final Model model = new Model();
    private final int width;
    private long seed;

    private ModelTest(int run) {
        seed = run;
        width = new int[] {8, 30, 60, 200}[run / 2 % 4];
    }

    public static void main(String[] args) {
        for (int run = 1; run <= RUNS; run++) {
            new ModelTest(run).compare(run);
        }
        Check.end();
    }

    /** A fixed row of numbers that look as if they came by chance: each run is the same each time. */
    private int next(int bound) {
        seed = seed * 6364136223846793005L + 1442695040888963407L;
        return (int) ((seed >>> 33) % bound);
    }

    private int number() {
        return next(8) == 0 ? ENDS[next(ENDS.length)] : next(width) - width / 2;
    }

    /** Mostly one that there is, now and then one beside them. */
    private int upTo(int greatest) {
        int kind = next(60);
        if (kind == 0) {
            return number();
        }
        return kind == 1 ? greatest + 1 : kind == 2 ? -1 : next(greatest + 1);
    }

    private void compare(int run) {
        for (int call = 0; call < CALLS; call++) {
            String name = next(3) == 0 ? FILLING[next(FILLING.length)] : NAMES[next(NAMES.length)];
            if (run % 2 == 0 && EMPTYING.contains(name) && next(20) != 0) {
                name = "put";
            }
            compareCall(run, name);
        }
    }

    private void compareCall(int run, String name) {
        int[] n = arguments(name);
        boolean p = next(2) == 0;
        boolean q = next(2) == 0;
        String what = "run " + run + ": " + name + " " + n[0] + " " + n[1] + " " + n[2] + " " + n[3]
                + " " + p + " " + q;
        Object due = Check.outcome(() -> model.answer(name, n[0], n[1], n[2], n[3], p, q));
        Check.same(what, Check.outcome(() -> answer(name, n[0], n[1], n[2], n[3], p, q)), due);
        Check.same(what + ", digest", gapline.digest(), model.answer("digest", 0, 0, 0, 0, p, q));
    }

    private int[] arguments(String name) {
        int a = number();
        int b = number();
        int length = next(8);
        switch (name) {
            case "reserve": case "isFree": case "narrow":
                return new int[] {a, next(9) == 0 ? b : a + length, 0, 0};
            case "release": case "merge": case "stall": case "free": case "sweep": case "beside":
            case "windowPut": case "windowTake": case "windowRank":
                return new int[] {a, 0, 0, 0};
            case "fit":
                return new int[] {next(5) == 0 ? a : 1 + next(width), 0, 0, 0};
            case "windowNear":
                return new int[] {a, upTo(3), 0, 0};
            case "window": case "stalls":
                return new int[] {upTo(4), 0, 0, 0};
            case "house":
                return new int[] {upTo(6), 0, 0, 0};
            case "bar":
                return new int[] {upTo(9), a, next(9) == 0 ? b : a + 1 + length * 3, next(5) - 2};
            case "lift": case "neighbours": case "ofBar":
                return new int[] {upTo(9), upTo(3), 0, 0};
            case "join": case "less": case "common": case "copy": case "holds": case "areAlike":
                return new int[] {upTo(3), upTo(3), 0, 0};
            case "near":
                return new int[] {upTo(3), a, upTo(3), 0};
            case "nth":
                return new int[] {upTo(3), upTo(20), 0, 0};
            case "chain":
                return new int[] {upTo(3), a, next(4) == 0 ? upTo(21) : 1 + next(5), 0};
            case "cutBetween": case "between": case "look":
                return new int[] {upTo(3), a, next(3) == 0 ? b : a + length, 0};
            default:
                return new int[] {upTo(3), a, 0, 0};
        }
    }

    private Object answer(String name, int a, int b, int c, int d, boolean p, boolean q) {
        switch (name) {
            case "put": return gapline.put(a, b);
            case "take": return gapline.take(a, b);
            case "poll": return gapline.poll(a, p);
            case "clear": return gapline.clear(a);
            case "cut": return gapline.cut(a, b, p);
            case "cutBetween": return gapline.cutBetween(a, b, c);
            case "join": return gapline.join(a, b);
            case "less": return gapline.less(a, b);
            case "common": return gapline.common(a, b);
            case "copy": return gapline.copy(a, b);
            case "size": return gapline.size(a);
            case "has": return gapline.has(a, b);
            case "end": return gapline.end(a, p);
            case "near": return gapline.near(a, b, c);
            case "rank": return gapline.rank(a, b, p);
            case "beyond": return gapline.beyond(a, b, p);
            case "between": return gapline.between(a, b, c, p, q);
            case "nth": return gapline.nth(a, b, p);
            case "chain": return gapline.chain(a, b, c);
            case "room": return gapline.room(a, b);
            case "widest": return gapline.widest(a);
            case "spread": return gapline.spread(a);
            case "text": return gapline.text(a, p);
            case "holds": return gapline.holds(a, b);
            case "areAlike": return gapline.areAlike(a, b);
            case "look": return gapline.look(a, b, c);
            default: return otherAnswer(name, a, b, c, d, p);
        }
    }

    private Object otherAnswer(String name, int a, int b, int c, int d, boolean p) {
        switch (name) {
            case "narrow": return gapline.narrow(a, b);
            case "windowPut": return gapline.windowPut(a);
            case "windowTake": return gapline.windowTake(a);
            case "windowPoll": return gapline.windowPoll(p);
            case "windowNear": return gapline.windowNear(a, b);
            case "windowRank": return gapline.windowRank(a);
            case "window": return gapline.window(a);
            case "reserve": return gapline.reserve(a, b);
            case "release": return gapline.release(a);
            case "merge": return gapline.merge(a);
            case "stall": return gapline.stall(a);
            case "free": return gapline.free(a);
            case "fit": return gapline.fit(a);
            case "isFree": return gapline.isFree(a, b);
            case "stalls": return gapline.stalls(a);
            case "bar": return gapline.bar(a, b, c, d);
            case "lift": return gapline.lift(a);
            case "sweep": return gapline.sweep(a);
            case "open": return gapline.open();
            case "beside": return gapline.beside(a, p);
            case "neighbours": return gapline.neighbours(a);
            case "ofBar": return gapline.ofBar(a, b);
            case "house": return gapline.house(a);
            case "knock": return gapline.knock();
            case "isSound": return gapline.isSound();
            default: return gapline.digest();
        }
    }
}
