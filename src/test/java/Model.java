import java.math.BigInteger;
import java.util.ArrayList;
import java.util.List;
import java.util.NavigableSet;
import java.util.TreeMap;
import java.util.TreeSet;
import java.util.stream.Collectors;

/** The document once more, written with the Java library, to compare long runs of calls with. */
final class Model {
    private static final RuntimeException NO_PLACE = new IndexOutOfBoundsException();
    private static final RuntimeException BAD = new IllegalArgumentException();

    private final List<TreeSet<Integer>> lines = new ArrayList<>();
    private final TreeMap<Integer, Integer> stalls = new TreeMap<>();
    private final TreeMap<Integer, int[]> bars = new TreeMap<>();
    private int[] window;
    private int sweep;
    private int refused;
    private int knocks;

    Model() {
        for (int i = 0; i < 4; i++) {
            lines.add(new TreeSet<>());
        }
    }

    /** The answer to a call with these arguments, of which a method takes as many as it needs. */
    Object answer(String name, int a, int b, int c, int d, boolean p, boolean q) {
        if (name.startsWith("window") || name.equals("look") || name.equals("narrow")) {
            return windowAnswer(name, a, b, c, p);
        }
        switch (name) {
            case "reserve": case "release": case "merge": case "stall": case "free": case "fit":
            case "isFree": case "stalls":
                return stallAnswer(name, a, b);
            case "bar": case "lift": case "sweep": case "open": case "beside": case "neighbours":
            case "ofBar":
                return barAnswer(name, a, b, c, d, p);
            case "house": case "knock": case "isSound": case "digest":
                return wholeAnswer(name, a);
            default:
                return lineAnswer(name, a, b, c, p, q);
        }
    }

    private static void need(boolean isSo, RuntimeException otherwise) {
        if (!isSo) {
            throw otherwise;
        }
    }

    private int refuse() {
        refused++;
        return -9;
    }

    private static String or(Object told) {
        return told == null ? "" : told.toString();
    }

    private static String listed(Iterable<?> all) {
        List<String> texts = new ArrayList<>();
        for (Object each : all) {
            texts.add(each.toString());
        }
        return String.join(" ", texts);
    }

    private static String distance(Integer low, Integer high) {
        if (low == null || high == null) {
            return "";
        }
        return BigInteger.valueOf(high).subtract(BigInteger.valueOf(low)).toString();
    }

    private static String near(NavigableSet<Integer> in, int number, int what) {
        switch (what) {
            case 0:
                return or(in.floor(number));
            case 1:
                return or(in.ceiling(number));
            case 2:
                return or(in.lower(number));
            default:
                return or(in.higher(number));
        }
    }

    private static String widest(TreeSet<Integer> line) {
        BigInteger best = BigInteger.ZERO;
        String told = "";
        for (Integer low : line) {
            Integer high = line.higher(low);
            if (high != null && new BigInteger(distance(low, high)).compareTo(best) > 0) {
                best = new BigInteger(distance(low, high));
                told = best + "@" + low;
            }
        }
        return told;
    }

    private static int removed(TreeSet<Integer> line, NavigableSet<Integer> gone) {
        int before = line.size();
        line.removeAll(new ArrayList<>(gone));
        return before - line.size();
    }

    private static String first(TreeSet<Integer> line, boolean isLast) {
        return line.isEmpty() ? "" : or(isLast ? line.last() : line.first());
    }

    private int put(TreeSet<Integer> line, int number) {
        if (line.contains(number)) {
            return 0;
        }
        if (line.size() == 20) {
            return refuse();
        }
        line.add(number);
        return 1;
    }

    private Object lineAnswer(String name, int a, int b, int c, boolean p, boolean q) {
        need(a >= 0 && a < 4, NO_PLACE);
        TreeSet<Integer> line = lines.get(a);
        switch (name) {
            case "put":
                return put(line, b);
            case "take":
                return line.remove(b) ? 1 : 0;
            case "poll":
                String polled = first(line, p);
                if (!line.isEmpty()) {
                    line.remove(p ? line.last() : line.first());
                }
                return polled;
            case "clear":
                return removed(line, line);
            case "cut":
                return removed(line, p ? line.tailSet(b, true) : line.headSet(b, false));
            case "cutBetween":
                need(b <= c, BAD);
                return removed(line, line.subSet(b, true, c, true));
            case "join": case "less": case "common": case "copy": case "holds": case "areAlike":
                need(b >= 0 && b < 4, NO_PLACE);
                return pairAnswer(name, a, line, lines.get(b));
            case "size":
                return line.size();
            case "has":
                return line.contains(b);
            case "end":
                return first(line, p);
            case "near":
                need(c >= 0 && c <= 3, BAD);
                return near(line, b, c);
            case "rank":
                return line.headSet(b, p).size();
            case "beyond":
                return line.tailSet(b, p).size();
            case "between":
                need(b <= c, BAD);
                if (b == c) {
                    return line.contains(b) && p && q ? 1 : 0;
                }
                return line.subSet(b, p, c, q).size();
            case "nth":
                need(b >= 0, BAD);
                List<Integer> order = new ArrayList<>(p ? line.descendingSet() : line);
                return b < order.size() ? or(order.get(b)) : "";
            case "chain":
                need(c >= 1 && c <= 20, BAD);
                Integer place = b;
                for (int step = 0; step < c && place != null; step++) {
                    place = line.higher(place);
                }
                return or(place);
            case "room":
                return distance(line.lower(b), line.higher(b));
            case "widest":
                return widest(line);
            case "spread":
                return line.isEmpty() ? "" : distance(line.first(), line.last());
            default:
                return listed(p ? line.descendingSet() : line);
        }
    }

    private Object pairAnswer(String name, int a, TreeSet<Integer> line, TreeSet<Integer> other) {
        TreeSet<Integer> result = new TreeSet<>(line);
        int before = line.size();
        switch (name) {
            case "holds":
                return line.containsAll(other);
            case "areAlike":
                return line.equals(other);
            case "join":
                result.addAll(other);
                if (result.size() > 20) {
                    return refuse();
                }
                lines.set(a, result);
                return result.size() - before;
            case "less":
                result.removeAll(new ArrayList<>(other));
                lines.set(a, result);
                return before - result.size();
            case "common":
                result.retainAll(new ArrayList<>(other));
                lines.set(a, result);
                return before - result.size();
            default:
                lines.set(a, new TreeSet<>(other));
                if (window != null && window[0] == a) {
                    window = null;
                }
                return other.size();
        }
    }

    private NavigableSet<Integer> shown() {
        return lines.get(window[0]).subSet(window[1], true, window[2], true);
    }

    private boolean isInWindow(int number) {
        return window != null && window[1] <= number && number <= window[2];
    }

    private Object windowAnswer(String name, int a, int b, int c, boolean p) {
        switch (name) {
            case "look":
                need(a >= 0 && a < 4, NO_PLACE);
                need(b <= c, BAD);
                window = new int[] {a, b, c};
                return shown().size();
            case "narrow":
                need(a <= b, BAD);
                if (!isInWindow(a) || !isInWindow(b)) {
                    return refuse();
                }
                window = new int[] {window[0], a, b};
                return shown().size();
            case "windowPut":
                return isInWindow(a) ? put(lines.get(window[0]), a) : refuse();
            case "windowTake":
                return window == null ? refuse() : isInWindow(a) && shown().remove(a) ? 1 : 0;
            case "windowPoll":
                return window == null ? "" : or(p ? shown().pollLast() : shown().pollFirst());
            case "windowNear":
                need(b >= 0 && b <= 3, BAD);
                return window == null ? "" : near(new TreeSet<>(shown()), a, b);
            case "windowRank":
                return isInWindow(a) ? new TreeSet<>(shown()).headSet(a, false).size() : refuse();
            default:
                need(a >= 0 && a <= 4, BAD);
                if (window == null) {
                    return "";
                }
                return a < 3 ? "" + window[a] : a == 3 ? "" + shown().size() : listed(shown());
        }
    }

    /** The stall in which a number lies, as its least number, or null. */
    private Integer stallOf(int number) {
        Integer low = stalls.floorKey(number);
        return low != null && stalls.get(low) >= number ? low : null;
    }

    private boolean isFree(int low, int high) {
        Integer last = stalls.floorKey(high);
        return last == null || stalls.get(last) < low;
    }

    /** All stretches, each with its least and its greatest number. */
    private List<long[]> stretches() {
        List<long[]> found = new ArrayList<>();
        long from = Integer.MIN_VALUE;
        for (Integer low : stalls.keySet()) {
            if (low > from) {
                found.add(new long[] {from, low - 1L});
            }
            from = stalls.get(low) + 1L;
        }
        if (from <= Integer.MAX_VALUE) {
            found.add(new long[] {from, Integer.MAX_VALUE});
        }
        return found;
    }

    private Object stallAnswer(String name, int a, int b) {
        Integer low = stallOf(a);
        switch (name) {
            case "reserve":
                need(a <= b, BAD);
                if (!isFree(a, b) || stalls.size() == 16) {
                    return refuse();
                }
                stalls.put(a, b);
                return stalls.size();
            case "release":
                return low == null ? "" : "" + (1L + stalls.remove(low) - low);
            case "merge":
                return merge(low);
            case "stall":
                return low == null ? "" : low + ".." + stalls.get(low);
            case "free":
                for (long[] each : stretches()) {
                    if (each[0] <= a && a <= each[1]) {
                        return each[0] + ".." + each[1];
                    }
                }
                return "";
            case "fit":
                need(a >= 1, BAD);
                for (long[] each : stretches()) {
                    if (each[1] - each[0] + 1 >= a) {
                        return "" + each[0];
                    }
                }
                return "";
            case "isFree":
                need(a <= b, BAD);
                return isFree(a, b);
            default:
                need(a >= 0 && a <= 4, BAD);
                return stallsAnswer(a);
        }
    }

    private int merge(Integer low) {
        if (low == null) {
            return refuse();
        }
        Integer next = stalls.higherKey(low);
        if (next == null || next != stalls.get(low) + 1L) {
            return 0;
        }
        stalls.put(low, stalls.remove(next));
        return 1;
    }

    private String stallsAnswer(int what) {
        long size = 0;
        List<String> texts = new ArrayList<>();
        for (Integer low : stalls.keySet()) {
            size += 1L + stalls.get(low) - low;
            texts.add(low + ".." + stalls.get(low));
        }
        switch (what) {
            case 0:
                return "" + stalls.size();
            case 1:
                return "" + size;
            case 2:
                return "" + ((1L << 32) - size);
            case 3:
                return "" + stretches().size();
            default:
                return listed(texts);
        }
    }

    private boolean isOpen(int bar) {
        int[] laid = bars.get(bar);
        return laid != null && laid[0] <= sweep && sweep < laid[1];
    }

    private List<Integer> openBars() {
        return bars.keySet().stream().filter(this::isOpen)
                .sorted((x, y) -> bars.get(x)[2] != bars.get(y)[2]
                        ? Integer.compare(bars.get(x)[2], bars.get(y)[2]) : Integer.compare(x, y))
                .collect(Collectors.toList());
    }

    private Object barAnswer(String name, int a, int b, int c, int d, boolean p) {
        boolean isNamed = !name.equals("sweep") && !name.equals("open") && !name.equals("beside");
        need(!isNamed || a >= 0 && a < 10, NO_PLACE);
        switch (name) {
            case "bar":
                need(b < c, BAD);
                bars.put(a, new int[] {b, c, d});
                return isOpen(a) ? 1 : 0;
            case "lift":
                return bars.remove(a) == null ? 0 : 1;
            case "sweep":
                sweep = a;
                return openBars().size();
            case "open":
                return listed(openBars());
            case "beside":
                int best = -1;
                for (Integer bar : openBars()) {
                    if (p && bars.get(bar)[2] < a || !p && bars.get(bar)[2] > a && best < 0) {
                        best = bar;
                    }
                }
                return best;
            case "neighbours":
                List<Integer> order = openBars();
                int index = order.indexOf(a);
                if (index < 0) {
                    return "";
                }
                return (index == 0 ? "-" : order.get(index - 1)) + " "
                        + (index == order.size() - 1 ? "-" : order.get(index + 1));
            default:
                need(b >= 0 && b <= 3, BAD);
                if (bars.get(a) == null) {
                    return "";
                }
                return b < 3 ? "" + bars.get(a)[b] : isOpen(a) ? "1" : "0";
        }
    }

    private Object wholeAnswer(String name, int a) {
        switch (name) {
            case "house":
                need(a >= 0 && a <= 6, BAD);
                return house(a);
            case "knock":
                return ++knocks;
            case "isSound":
                return true;
            default:
                return digest();
        }
    }

    private int house(int what) {
        int numbers = 0;
        for (TreeSet<Integer> line : lines) {
            numbers += line.size();
        }
        int[] all = {
            numbers, stalls.size(), bars.size(), openBars().size(), sweep, refused, knocks,
        };
        return all[what];
    }

    private long digest() {
        List<Object> told = new ArrayList<>();
        for (int what = 0; what <= 6; what++) {
            told.add(house(what));
        }
        for (TreeSet<Integer> line : lines) {
            told.add(line.size());
            told.add(listed(line));
            told.add(widest(line));
            told.add(line.isEmpty() ? "" : distance(line.first(), line.last()));
        }
        for (int what = 0; what <= 4; what++) {
            told.add(windowAnswer("window", what, 0, 0, false));
        }
        for (int what = 0; what <= 4; what++) {
            told.add(stallsAnswer(what));
        }
        told.add(listed(openBars()));
        for (int bar = 0; bar < 10; bar++) {
            for (int what = 0; what <= 3; what++) {
                told.add(barAnswer("ofBar", bar, what, 0, 0, false));
            }
        }
        told.add(1);
        return digestOf(told);
    }

    private static long digestOf(List<Object> told) {
        long d = 7835;
        for (Object each : told) {
            if (each instanceof Integer) {
                d = d * 31 + (Integer) each;
            } else {
                for (char sign : each.toString().toCharArray()) {
                    d = d * 31 + sign;
                }
            }
        }
        return d;
    }
}
