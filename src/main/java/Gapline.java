/**
 * Numbers in order, and what lies between them: four lines of numbers, a window over a part of a
 * line, stalls with the free stretches between them, and bars that a sweeping line meets.
 */
public final class Gapline {
    private static final int NONE = -1;
    private static final int REFUSED = -9;
    private static final int LINES = 4;
    private static final int LINE_LIMIT = 20;
    private static final int STALL_LIMIT = 16;
    private static final int BARS = 10;
    private static final int LEAST = -2147483648;
    private static final int GREATEST = 2147483647;
    private static final long ALL_NUMBERS = 4294967296L;

    private static final int AT_MOST = 0;
    private static final int AT_LEAST = 1;
    private static final int BELOW = 2;
    private static final int ABOVE = 3;

    private final Line[] lines = new Line[LINES];
    private final Window pane = new Window();
    private final Stalls taken = new Stalls();
    private final Bars laid = new Bars();
    // One builder serves all texts of the object, so that long runs stay small.
    private final StringBuilder out = new StringBuilder();
    private int refusals;
    private int knocks;

    public Gapline() {
        for (int i = 0; i < LINES; i++) {
            lines[i] = new Line();
        }
    }

    // ---- lines: numbers come and go

    public int put(int line, int number) throws IndexOutOfBoundsException {
        return putInto(lineAt(line), number);
    }

    public int take(int line, int number) throws IndexOutOfBoundsException {
        return lineAt(line).removeFromTo(number, number);
    }

    public String poll(int line, boolean isLast) throws IndexOutOfBoundsException {
        Line asked = lineAt(line);
        return pollWithin(asked, 0, asked.amount(), isLast);
    }

    public int clear(int line) throws IndexOutOfBoundsException {
        Line asked = lineAt(line);
        return asked.removeRange(0, asked.amount());
    }

    public int cut(int line, int number, boolean isBack) throws IndexOutOfBoundsException {
        Line asked = lineAt(line);
        int below = asked.countBelow(number);
        if (isBack) {
            return asked.removeRange(below, asked.amount());
        }
        return asked.removeRange(0, below);
    }

    public int cutBetween(int line, int low, int high)
            throws IndexOutOfBoundsException, IllegalArgumentException {
        Line asked = lineAt(line);
        checkBounds(low, high);
        return asked.removeFromTo(low, high);
    }

    public int join(int line, int other) throws IndexOutOfBoundsException {
        Line asked = lineAt(line);
        Line second = lineAt(other);
        if (asked.amount() + second.countMissingIn(asked) > LINE_LIMIT) {
            return refuse();
        }
        return asked.insertAll(second);
    }

    public int less(int line, int other) throws IndexOutOfBoundsException {
        Line asked = lineAt(line);
        return asked.removeWhere(lineAt(other), true);
    }

    public int common(int line, int other) throws IndexOutOfBoundsException {
        Line asked = lineAt(line);
        return asked.removeWhere(lineAt(other), false);
    }

    public int copy(int line, int from) throws IndexOutOfBoundsException {
        Line asked = lineAt(line);
        asked.becomeLike(lineAt(from));
        if (pane.number() == line) {
            pane.shut();
        }
        return asked.amount();
    }

    // ---- lines: what is asked

    public int size(int line) throws IndexOutOfBoundsException {
        return lineAt(line).amount();
    }

    public boolean has(int line, int number) throws IndexOutOfBoundsException {
        return lineAt(line).contains(number);
    }

    public String end(int line, boolean isLast) throws IndexOutOfBoundsException {
        Line asked = lineAt(line);
        return numberText(asked, isLast ? asked.amount() - 1 : 0);
    }

    public String near(int line, int number, int what)
            throws IndexOutOfBoundsException, IllegalArgumentException {
        Line asked = lineAt(line);
        checkWhat(what, ABOVE);
        return numberText(asked, asked.indexNear(number, what, 0, asked.amount()));
    }

    public int rank(int line, int number, boolean isIn) throws IndexOutOfBoundsException {
        Line asked = lineAt(line);
        return isIn ? asked.countUpTo(number) : asked.countBelow(number);
    }

    public int beyond(int line, int number, boolean isIn) throws IndexOutOfBoundsException {
        Line asked = lineAt(line);
        return asked.amount() - (isIn ? asked.countBelow(number) : asked.countUpTo(number));
    }

    public int between(int line, int low, int high, boolean isLow, boolean isHigh)
            throws IndexOutOfBoundsException, IllegalArgumentException {
        Line asked = lineAt(line);
        checkBounds(low, high);
        int start = isLow ? asked.countBelow(low) : asked.countUpTo(low);
        int end = isHigh ? asked.countUpTo(high) : asked.countBelow(high);
        // With both bounds on one number that does not count, the end comes ahead of the start.
        return Math.max(0, end - start);
    }

    public String nth(int line, int k, boolean isBack)
            throws IndexOutOfBoundsException, IllegalArgumentException {
        Line asked = lineAt(line);
        if (k < 0) {
            throw new IllegalArgumentException("k is below 0");
        }
        return numberText(asked, isBack ? asked.amount() - 1 - k : k);
    }

    public String chain(int line, int from, int steps)
            throws IndexOutOfBoundsException, IllegalArgumentException {
        Line asked = lineAt(line);
        if (steps < 1 || steps > LINE_LIMIT) {
            throw new IllegalArgumentException("steps is not 1 to 20");
        }
        return numberText(asked, asked.countUpTo(from) + steps - 1);
    }

    public String room(int line, int number) throws IndexOutOfBoundsException {
        Line asked = lineAt(line);
        out.setLength(0);
        asked.writeDistance(out, asked.countBelow(number) - 1, asked.countUpTo(number));
        return out.toString();
    }

    public String widest(int line) throws IndexOutOfBoundsException {
        Line asked = lineAt(line);
        out.setLength(0);
        asked.writeWidest(out);
        return out.toString();
    }

    public String spread(int line) throws IndexOutOfBoundsException {
        Line asked = lineAt(line);
        out.setLength(0);
        asked.writeDistance(out, 0, asked.amount() - 1);
        return out.toString();
    }

    public String text(int line, boolean isBack) throws IndexOutOfBoundsException {
        Line asked = lineAt(line);
        out.setLength(0);
        if (isBack) {
            asked.writeBack(out);
        } else {
            asked.writeRange(out, 0, asked.amount());
        }
        return out.toString();
    }

    public boolean holds(int line, int other) throws IndexOutOfBoundsException {
        Line asked = lineAt(line);
        return lineAt(other).countMissingIn(asked) == 0;
    }

    public boolean areAlike(int line, int other) throws IndexOutOfBoundsException {
        Line asked = lineAt(line);
        Line second = lineAt(other);
        return asked.amount() == second.amount() && second.countMissingIn(asked) == 0;
    }

    // ---- a window

    public int look(int line, int low, int high)
            throws IndexOutOfBoundsException, IllegalArgumentException {
        Line asked = lineAt(line);
        checkBounds(low, high);
        pane.showOver(asked, line);
        pane.setBounds(low, high);
        return pane.shown();
    }

    public int narrow(int low, int high) throws IllegalArgumentException {
        checkBounds(low, high);
        if (!pane.covers(low) || !pane.covers(high)) {
            return refuse();
        }
        pane.setBounds(low, high);
        return pane.shown();
    }

    public int windowPut(int number) {
        Line line = pane.line();
        if (line == null || !pane.covers(number)) {
            return refuse();
        }
        return putInto(line, number);
    }

    public int windowTake(int number) {
        Line line = pane.line();
        if (line == null) {
            return refuse();
        }
        return pane.covers(number) ? line.removeFromTo(number, number) : 0;
    }

    public String windowPoll(boolean isLast) {
        Line line = pane.line();
        if (line == null) {
            return "";
        }
        return pollWithin(line, pane.firstIndex(), pane.indexBehind(), isLast);
    }

    public String windowNear(int number, int what) throws IllegalArgumentException {
        checkWhat(what, ABOVE);
        Line line = pane.line();
        if (line == null) {
            return "";
        }
        return numberText(line, line.indexNear(number, what, pane.firstIndex(), pane.indexBehind()));
    }

    public int windowRank(int number) {
        Line line = pane.line();
        if (line == null || !pane.covers(number)) {
            return refuse();
        }
        return line.countBelow(number) - pane.firstIndex();
    }

    public String window(int what) throws IllegalArgumentException {
        checkWhat(what, 4);
        out.setLength(0);
        pane.write(out, what);
        return out.toString();
    }

    // ---- stalls

    public int reserve(int low, int high) throws IllegalArgumentException {
        checkBounds(low, high);
        return taken.insert(low, high) ? taken.amount() : refuse();
    }

    public String release(int number) {
        int index = taken.indexOf(number);
        out.setLength(0);
        if (index != NONE) {
            writeLong(out, taken.sizeAt(index));
            taken.removeAt(index);
        }
        return out.toString();
    }

    public int merge(int number) {
        int index = taken.indexOf(number);
        if (index == NONE) {
            return refuse();
        }
        return taken.mergeAt(index) ? 1 : 0;
    }

    public String stall(int number) {
        out.setLength(0);
        taken.writeAt(out, taken.indexOf(number));
        return out.toString();
    }

    public String free(int number) {
        out.setLength(0);
        if (taken.indexOf(number) == NONE) {
            int stretch = taken.countBelow(number);
            writeSpan(out, taken.stretchLow(stretch), taken.stretchHigh(stretch));
        }
        return out.toString();
    }

    public String fit(int size) throws IllegalArgumentException {
        if (size < 1) {
            throw new IllegalArgumentException("size is below 1");
        }
        out.setLength(0);
        taken.writeFit(out, size);
        return out.toString();
    }

    public boolean isFree(int low, int high) throws IllegalArgumentException {
        checkBounds(low, high);
        return !taken.isMet(low, high);
    }

    public String stalls(int what) throws IllegalArgumentException {
        checkWhat(what, 4);
        out.setLength(0);
        taken.write(out, what);
        return out.toString();
    }

    // ---- bars and the line that sweeps

    public int bar(int bar, int from, int to, int height)
            throws IndexOutOfBoundsException, IllegalArgumentException {
        checkBar(bar);
        if (from >= to) {
            throw new IllegalArgumentException("from is not below to");
        }
        laid.lay(bar, from, to, height);
        return laid.isOpenAt(bar) ? 1 : 0;
    }

    public int lift(int bar) throws IndexOutOfBoundsException {
        checkBar(bar);
        return laid.remove(bar) ? 1 : 0;
    }

    public int sweep(int place) {
        laid.moveTo(place);
        return laid.countOpen();
    }

    public String open() {
        out.setLength(0);
        laid.writeOpen(out);
        return out.toString();
    }

    public int beside(int height, boolean isBack) {
        return isBack ? laid.highestUnder(height) : laid.lowestOver(height);
    }

    public String neighbours(int bar) throws IndexOutOfBoundsException {
        checkBar(bar);
        out.setLength(0);
        if (laid.isOpenAt(bar)) {
            writeBarOrDash(out, laid.nextBelow(bar));
            out.append(' ');
            writeBarOrDash(out, laid.nextAbove(bar));
        }
        return out.toString();
    }

    public String ofBar(int bar, int what)
            throws IndexOutOfBoundsException, IllegalArgumentException {
        checkBar(bar);
        checkWhat(what, 3);
        out.setLength(0);
        laid.write(out, bar, what);
        return out.toString();
    }

    // ---- all of it

    public int house(int what) throws IllegalArgumentException {
        checkWhat(what, 6);
        return countOf(what);
    }

    public int knock() {
        knocks++;
        return knocks;
    }

    public boolean isSound() {
        for (int i = 0; i < LINES; i++) {
            if (!lines[i].isSoundOnward() || !lines[i].isSoundBack()) {
                return false;
            }
        }
        return pane.isTrue() && taken.isApart() && taken.isWhole()
                && laid.isOpenTrue() && laid.isOrdered();
    }

    public long digest() {
        long d = 7835;
        for (int what = 0; what <= 6; what++) {
            d = d * 31 + countOf(what);
        }
        for (int i = 0; i < LINES; i++) {
            d = digestLine(d, lines[i]);
        }
        out.setLength(0);
        for (int what = 0; what <= 4; what++) {
            pane.write(out, what);
        }
        for (int what = 0; what <= 4; what++) {
            taken.write(out, what);
        }
        laid.writeOpen(out);
        for (int bar = 0; bar < BARS; bar++) {
            for (int what = 0; what <= 3; what++) {
                laid.write(out, bar, what);
            }
        }
        return digestText(d) * 31 + (isSound() ? 1 : 0);
    }

    // ---- helpers

    private Line lineAt(int line) throws IndexOutOfBoundsException {
        if (line < 0 || line >= LINES) {
            throw new IndexOutOfBoundsException("no such line");
        }
        return lines[line];
    }

    private static void checkBar(int bar) throws IndexOutOfBoundsException {
        if (bar < 0 || bar >= BARS) {
            throw new IndexOutOfBoundsException("no such bar");
        }
    }

    private static void checkBounds(int low, int high) throws IllegalArgumentException {
        if (low > high) {
            throw new IllegalArgumentException("low is above high");
        }
    }

    private static void checkWhat(int what, int greatest) throws IllegalArgumentException {
        if (what < 0 || what > greatest) {
            throw new IllegalArgumentException("no such question");
        }
    }

    private int refuse() {
        refusals++;
        return REFUSED;
    }

    private int putInto(Line line, int number) {
        if (line.contains(number)) {
            return 0;
        }
        return line.insert(number) ? 1 : refuse();
    }

    private String pollWithin(Line line, int start, int end, boolean isLast) {
        if (start >= end) {
            return "";
        }
        int index = isLast ? end - 1 : start;
        String told = numberText(line, index);
        line.removeRange(index, index + 1);
        return told;
    }

    private String numberText(Line line, int index) {
        out.setLength(0);
        line.writeAt(out, index);
        return out.toString();
    }

    private int countOf(int what) {
        switch (what) {
            case 0:
                return countNumbers();
            case 1:
                return taken.amount();
            case 2:
                return laid.countLying();
            case 3:
                return laid.countOpen();
            case 4:
                return laid.place();
            case 5:
                return refusals;
            default:
                return knocks;
        }
    }

    private int countNumbers() {
        int sum = 0;
        for (int i = 0; i < LINES; i++) {
            sum += lines[i].amount();
        }
        return sum;
    }

    private long digestLine(long d, Line line) {
        out.setLength(0);
        line.writeRange(out, 0, line.amount());
        line.writeWidest(out);
        line.writeDistance(out, 0, line.amount() - 1);
        return digestText(d * 31 + line.amount());
    }

    private long digestText(long start) {
        long d = start;
        for (int i = 0; i < out.length(); i++) {
            d = d * 31 + out.charAt(i);
        }
        return d;
    }

    /** Tells a number from 0 to 4294967296, which append(int) alone can't hold. */
    private static void writeLong(StringBuilder out, long value) {
        long tens = value / 10;
        if (tens > 0) {
            out.append((int) tens);
        }
        out.append((int) (value % 10));
    }

    private static void writeSpan(StringBuilder out, long low, long high) {
        out.append((int) low).append("..").append((int) high);
    }

    private static void writeBarOrDash(StringBuilder out, int bar) {
        if (bar == NONE) {
            out.append('-');
        } else {
            out.append(bar);
        }
    }

    /** Up to 20 numbers, no two alike, in rising order from index 0 on. */
    private static final class Line {
        private final int[] numbers = new int[LINE_LIMIT];
        private int count;

        int amount() {
            return count;
        }

        int countBelow(int number) {
            int below = 0;
            while (below < count && numbers[below] < number) {
                below++;
            }
            return below;
        }

        int countUpTo(int number) {
            int reached = 0;
            while (reached < count && numbers[reached] <= number) {
                reached++;
            }
            return reached;
        }

        /** Asks each number, so that isSound() has a count that does not rest on their order. */
        int countFromTo(int low, int high) {
            int inside = 0;
            for (int i = 0; i < count; i++) {
                if (numbers[i] >= low && numbers[i] <= high) {
                    inside++;
                }
            }
            return inside;
        }

        boolean contains(int number) {
            return countUpTo(number) > countBelow(number);
        }

        boolean insert(int number) {
            if (count >= LINE_LIMIT || contains(number)) {
                return false;
            }
            int index = countBelow(number);
            for (int i = count; i > index; i--) {
                numbers[i] = numbers[i - 1];
            }
            numbers[index] = number;
            count++;
            return true;
        }

        int insertAll(Line other) {
            int came = 0;
            for (int i = 0; i < other.count; i++) {
                if (insert(other.numbers[i])) {
                    came++;
                }
            }
            return came;
        }

        int removeRange(int start, int end) {
            if (start < 0 || start >= end || end > count) {
                return 0;
            }
            int gone = end - start;
            for (int i = end; i < count; i++) {
                numbers[i - gone] = numbers[i];
            }
            count -= gone;
            return gone;
        }

        int removeFromTo(int low, int high) {
            return removeRange(countBelow(low), countUpTo(high));
        }

        /** Removes from the last one on: the other line may be this one, which shrinks then. */
        int removeWhere(Line other, boolean isThere) {
            int gone = 0;
            for (int i = count - 1; i >= 0; i--) {
                if (other.contains(numbers[i]) == isThere) {
                    gone += removeRange(i, i + 1);
                }
            }
            return gone;
        }

        int countMissingIn(Line other) {
            int missing = 0;
            for (int i = 0; i < count; i++) {
                if (!other.contains(numbers[i])) {
                    missing++;
                }
            }
            return missing;
        }

        void becomeLike(Line other) {
            for (int i = 0; i < other.count; i++) {
                numbers[i] = other.numbers[i];
            }
            count = other.count;
        }

        /** The index of the number asked for among those from start to ahead of end, or NONE. */
        int indexNear(int number, int what, int start, int end) {
            int index;
            switch (what) {
                case AT_MOST:
                    index = Math.min(countUpTo(number), end) - 1;
                    break;
                case AT_LEAST:
                    index = Math.max(countBelow(number), start);
                    break;
                case BELOW:
                    index = Math.min(countBelow(number), end) - 1;
                    break;
                default:
                    index = Math.max(countUpTo(number), start);
                    break;
            }
            return index >= start && index < end ? index : NONE;
        }

        void writeAt(StringBuilder out, int index) {
            if (index >= 0 && index < count) {
                out.append(numbers[index]);
            }
        }

        void writeRange(StringBuilder out, int start, int end) {
            for (int i = start; i < end; i++) {
                if (i > start) {
                    out.append(' ');
                }
                writeAt(out, i);
            }
        }

        void writeBack(StringBuilder out) {
            for (int i = count - 1; i >= 0; i--) {
                out.append(numbers[i]);
                if (i > 0) {
                    out.append(' ');
                }
            }
        }

        void writeDistance(StringBuilder out, int start, int end) {
            if (start >= 0 && start <= end && end < count) {
                writeLong(out, distance(start, end));
            }
        }

        void writeWidest(StringBuilder out) {
            long width = 0;
            int start = NONE;
            for (int i = 1; i < count; i++) {
                if (distance(i - 1, i) > width) {
                    width = distance(i - 1, i);
                    start = i - 1;
                }
            }
            if (start != NONE) {
                writeLong(out, width);
                out.append('@');
                writeAt(out, start);
            }
        }

        boolean isSoundOnward() {
            long gaps = 0;
            int met = 0;
            int index = count > 0 ? 0 : NONE;
            for (int step = 0; step < LINE_LIMIT && index != NONE; step++) {
                if (countBelow(numbers[index]) != met) {
                    return false;
                }
                met++;
                int next = indexNear(numbers[index], ABOVE, 0, count);
                if (next != NONE) {
                    if (numbers[next] <= numbers[index]) {
                        return false;
                    }
                    gaps += distance(index, next);
                }
                index = next;
            }
            return met == count && index == NONE && gaps == wholeDistance();
        }

        boolean isSoundBack() {
            long gaps = 0;
            int left = count;
            int index = count - 1;
            for (int step = 0; step < LINE_LIMIT && index != NONE; step++) {
                left--;
                if (countBelow(numbers[index]) != left) {
                    return false;
                }
                int next = indexNear(numbers[index], BELOW, 0, count);
                if (next != NONE) {
                    if (numbers[next] >= numbers[index]) {
                        return false;
                    }
                    gaps += distance(next, index);
                }
                index = next;
            }
            return left == 0 && index == NONE && gaps == wholeDistance();
        }

        private long wholeDistance() {
            return count > 0 ? distance(0, count - 1) : 0;
        }

        private long distance(int start, int end) {
            return (long) numbers[end] - numbers[start];
        }
    }

    /** A part of a line; without a line there is no window. */
    private static final class Window {
        private Line line;
        private int number = NONE;
        private int low;
        private int high;

        Line line() {
            return line;
        }

        int number() {
            return number;
        }

        void showOver(Line over, int lineNumber) {
            line = over;
            number = lineNumber;
        }

        void shut() {
            line = null;
            number = NONE;
        }

        void setBounds(int least, int greatest) {
            low = least;
            high = greatest;
        }

        boolean covers(int asked) {
            return line != null && asked >= low && asked <= high;
        }

        int firstIndex() {
            return line == null ? 0 : line.countBelow(low);
        }

        int indexBehind() {
            return line == null ? 0 : line.countUpTo(high);
        }

        int shown() {
            return indexBehind() - firstIndex();
        }

        void write(StringBuilder out, int what) {
            if (line == null) {
                return;
            }
            switch (what) {
                case 0:
                    out.append(number);
                    break;
                case 1:
                    out.append(low);
                    break;
                case 2:
                    out.append(high);
                    break;
                case 3:
                    out.append(shown());
                    break;
                default:
                    line.writeRange(out, firstIndex(), indexBehind());
                    break;
            }
        }

        boolean isTrue() {
            return line == null || shown() == line.countFromTo(low, high);
        }
    }

    /**
     * Up to 16 stalls in rising order. Stretch k, from 0 to as many as there are stalls, lies ahead
     * of stall k; it may be empty, and its bounds are longs, as they may lie beside all numbers.
     */
    private static final class Stalls {
        private final int[] lows = new int[STALL_LIMIT];
        private final int[] highs = new int[STALL_LIMIT];
        private int count;

        int amount() {
            return count;
        }

        int indexOf(int number) {
            for (int i = 0; i < count; i++) {
                if (lows[i] <= number && number <= highs[i]) {
                    return i;
                }
            }
            return NONE;
        }

        /** How many stalls end below a number. */
        int countBelow(int number) {
            int below = 0;
            while (below < count && highs[below] < number) {
                below++;
            }
            return below;
        }

        boolean isMet(int low, int high) {
            for (int i = 0; i < count; i++) {
                if (lows[i] <= high && low <= highs[i]) {
                    return true;
                }
            }
            return false;
        }

        boolean insert(int low, int high) {
            if (count >= STALL_LIMIT || isMet(low, high)) {
                return false;
            }
            int index = countBelow(low);
            for (int i = count; i > index; i--) {
                lows[i] = lows[i - 1];
                highs[i] = highs[i - 1];
            }
            lows[index] = low;
            highs[index] = high;
            count++;
            return true;
        }

        void removeAt(int index) {
            if (index < 0 || index >= count) {
                return;
            }
            for (int i = index + 1; i < count; i++) {
                lows[i - 1] = lows[i];
                highs[i - 1] = highs[i];
            }
            count--;
        }

        boolean mergeAt(int index) {
            if (index < 0 || index + 1 >= count || stretchSize(index + 1) > 0) {
                return false;
            }
            highs[index] = highs[index + 1];
            removeAt(index + 1);
            return true;
        }

        long sizeAt(int index) {
            if (index < 0 || index >= count) {
                return 0;
            }
            return (long) highs[index] - lows[index] + 1;
        }

        long stretchLow(int stretch) {
            if (stretch <= 0 || stretch > count) {
                return LEAST;
            }
            return highs[stretch - 1] + 1L;
        }

        long stretchHigh(int stretch) {
            if (stretch < 0 || stretch >= count) {
                return GREATEST;
            }
            return lows[stretch] - 1L;
        }

        long stretchSize(int stretch) {
            return stretchHigh(stretch) - stretchLow(stretch) + 1;
        }

        void writeFit(StringBuilder out, int size) {
            for (int stretch = 0; stretch <= count; stretch++) {
                if (stretchSize(stretch) >= size) {
                    out.append((int) stretchLow(stretch));
                    return;
                }
            }
        }

        void writeAt(StringBuilder out, int index) {
            if (index >= 0 && index < count) {
                writeSpan(out, lows[index], highs[index]);
            }
        }

        void write(StringBuilder out, int what) {
            switch (what) {
                case 0:
                    out.append(count);
                    break;
                case 1:
                    writeLong(out, sizeOfStalls());
                    break;
                case 2:
                    writeLong(out, sizeOfStretches());
                    break;
                case 3:
                    out.append(countStretches());
                    break;
                default:
                    writeAll(out);
                    break;
            }
        }

        boolean isApart() {
            for (int i = 0; i < count; i++) {
                for (int k = i + 1; k < count; k++) {
                    if (lows[i] <= highs[k] && lows[k] <= highs[i]) {
                        return false;
                    }
                }
            }
            return true;
        }

        boolean isWhole() {
            return sizeOfStalls() + sizeOfStretches() == ALL_NUMBERS;
        }

        private void writeAll(StringBuilder out) {
            for (int i = 0; i < count; i++) {
                if (i > 0) {
                    out.append(' ');
                }
                writeAt(out, i);
            }
        }

        private long sizeOfStalls() {
            long sum = 0;
            for (int i = 0; i < count; i++) {
                sum += sizeAt(i);
            }
            return sum;
        }

        private long sizeOfStretches() {
            long sum = 0;
            for (int stretch = 0; stretch <= count; stretch++) {
                sum += stretchSize(stretch);
            }
            return sum;
        }

        private int countStretches() {
            int stretches = 0;
            for (int stretch = 0; stretch <= count; stretch++) {
                if (stretchSize(stretch) > 0) {
                    stretches++;
                }
            }
            return stretches;
        }
    }

    /** Ten bars, and the place of the line that sweeps over them. */
    private static final class Bars {
        private final boolean[] isLying = new boolean[BARS];
        private final int[] begins = new int[BARS];
        private final int[] ends = new int[BARS];
        private final int[] heights = new int[BARS];
        private int place;

        int place() {
            return place;
        }

        void moveTo(int newPlace) {
            place = newPlace;
        }

        void lay(int bar, int from, int to, int height) {
            if (!isBar(bar)) {
                return;
            }
            isLying[bar] = true;
            begins[bar] = from;
            ends[bar] = to;
            heights[bar] = height;
        }

        boolean remove(int bar) {
            if (!isBar(bar) || !isLying[bar]) {
                return false;
            }
            isLying[bar] = false;
            return true;
        }

        boolean isOpenAt(int bar) {
            return isBar(bar) && isLying[bar] && begins[bar] <= place && place < ends[bar];
        }

        int countLying() {
            int lying = 0;
            for (int bar = 0; bar < BARS; bar++) {
                if (isLying[bar]) {
                    lying++;
                }
            }
            return lying;
        }

        int countOpen() {
            int opened = 0;
            for (int bar = 0; bar < BARS; bar++) {
                if (isOpenAt(bar)) {
                    opened++;
                }
            }
            return opened;
        }

        /** The lowest open bar above one, or of all with NONE. */
        int nextAbove(int bar) {
            int best = NONE;
            for (int i = 0; i < BARS; i++) {
                if (isOpenAt(i) && (bar == NONE || isUnder(bar, i))
                        && (best == NONE || isUnder(i, best))) {
                    best = i;
                }
            }
            return best;
        }

        int nextBelow(int bar) {
            int best = NONE;
            for (int i = 0; i < BARS; i++) {
                if (isOpenAt(i) && isUnder(i, bar) && (best == NONE || isUnder(best, i))) {
                    best = i;
                }
            }
            return best;
        }

        int highestUnder(int height) {
            int best = NONE;
            for (int i = 0; i < BARS; i++) {
                if (isOpenAt(i) && heights[i] < height && (best == NONE || isUnder(best, i))) {
                    best = i;
                }
            }
            return best;
        }

        int lowestOver(int height) {
            int best = NONE;
            for (int i = 0; i < BARS; i++) {
                if (isOpenAt(i) && heights[i] > height && (best == NONE || isUnder(i, best))) {
                    best = i;
                }
            }
            return best;
        }

        void writeOpen(StringBuilder out) {
            int bar = nextAbove(NONE);
            for (int step = 0; step < BARS && bar != NONE; step++) {
                if (step > 0) {
                    out.append(' ');
                }
                out.append(bar);
                bar = nextAbove(bar);
            }
        }

        void write(StringBuilder out, int bar, int what) {
            if (!isBar(bar) || !isLying[bar]) {
                return;
            }
            switch (what) {
                case 0:
                    out.append(begins[bar]);
                    break;
                case 1:
                    out.append(ends[bar]);
                    break;
                case 2:
                    out.append(heights[bar]);
                    break;
                default:
                    out.append(isOpenAt(bar) ? 1 : 0);
                    break;
            }
        }

        boolean isOpenTrue() {
            for (int bar = 0; bar < BARS; bar++) {
                boolean isInside = begins[bar] <= place && place <= ends[bar] - 1L;
                if (isOpenAt(bar) != (isLying[bar] && isInside)) {
                    return false;
                }
            }
            return true;
        }

        boolean isOrdered() {
            int met = 0;
            int bar = nextAbove(NONE);
            for (int step = 0; step < BARS && bar != NONE; step++) {
                met++;
                int next = nextAbove(bar);
                if (next != NONE && !isUnder(bar, next)) {
                    return false;
                }
                bar = next;
            }
            return met == countOpen();
        }

        private boolean isUnder(int bar, int other) {
            if (!isBar(bar) || !isBar(other)) {
                return false;
            }
            return heights[bar] < heights[other]
                    || heights[bar] == heights[other] && bar < other;
        }

        private static boolean isBar(int bar) {
            return bar >= 0 && bar < BARS;
        }
    }
}
