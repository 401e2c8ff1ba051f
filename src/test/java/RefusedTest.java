/** Each -9 that the document names: it is told, house(5) counts it, and nothing else changes. */
public final class RefusedTest {
    public static void main(String[] args) {
        put();
        join();
        narrow();
        windowPut();
        windowTake();
        windowRank();
        reserve();
        merge();
        otherWithoutWindow();
        numbersNine();
        placesNine();
        eachIsCounted();
        Check.end();
    }

    private static void put() {
        for (int number : new int[] {Check.LEAST, -1, 5, 191, Check.GREATEST}) {
            Kept.refused("2 put to a full line " + number, LinePutTest.full(3), x -> x.put(3, number));
            Kept.refused("2 put to a full line, rich, " + number, Rich.object(), x -> x.put(0, number));
        }
        for (int number = 0; number <= 190; number += 10) {
            int there = number;
            Kept.answers("2 put there in a full line " + number, LinePutTest.full(3), x -> x.put(3, there), 0);
        }
        Gapline y = LinePutTest.full(3);
        y.take(3, 100);
        Check.same("2 put the 20th", y.put(3, 101), 1);
        Kept.refused("2 put a 21st", y, x -> x.put(3, 100));
    }

    private static void join() {
        Kept.refused("8 join 1 to 20", LinePutTest.add(LinePutTest.full(0), 1, 5), x -> x.join(0, 1));
        Kept.refused("8 join 1 to 20, and like ones",
                LinePutTest.add(LinePutTest.full(0), 1, 10, 20, 5), x -> x.join(0, 1));
        Kept.refused("8 join 20 to 1", LinePutTest.add(LinePutTest.full(0), 1, 5), x -> x.join(1, 0));
        Kept.refused("8 join 1 to 20 on other lines",
                LinePutTest.add(LinePutTest.full(2), 3, 5), x -> x.join(2, 3));
        Check.same("8 join on lines beside a full one",
                LinePutTest.add(LinePutTest.add(LinePutTest.full(0), 1, 1), 2, 5).join(1, 2), 1);
        Gapline y = LinePutTest.add(LinePutTest.full(0), 1, 10, 4, 5);
        y.take(0, 190);
        Kept.refused("8 join 2 and a like one to 19", y, x -> x.join(0, 1));
        y.take(0, 180);
        Check.same("8 join 2 and a like one to 18", y.join(0, 1), 2);
        Check.same("8 join to just 20", y.size(0), 20);
        Kept.answers("8 join like ones to 20", y, x -> x.join(0, 1), 0);
        Gapline full = LinePutTest.full(0);
        full.copy(2, 0);
        Kept.answers("8 join 20 like ones to 20", full, x -> x.join(0, 2), 0);
        Kept.answers("8 join 20 to themselves", full, x -> x.join(0, 0), 0);
        Kept.answers("8 join none to 20", full, x -> x.join(0, 1), 0);
        full.take(2, 0);
        full.put(2, 1);
        Kept.refused("8 join 20 others but for one", full, x -> x.join(0, 2));
    }

    private static void narrow() {
        Kept.refused("28 narrow, never a window", new Gapline(), x -> x.narrow(0, 0));
        Kept.refused("28 narrow, never a window, all",
                new Gapline(), x -> x.narrow(Check.LEAST, Check.GREATEST));
        Kept.refused("28 narrow, a closed window", Rich.shut(), x -> x.narrow(2, 3));
        Kept.refused("28 narrow, low just outside", Rich.opened(), x -> x.narrow(14, 40));
        Kept.refused("28 narrow, high just outside", Rich.opened(), x -> x.narrow(15, 41));
        Kept.refused("28 narrow, both below it", Rich.opened(), x -> x.narrow(3, 14));
        Kept.refused("28 narrow, both above it", Rich.opened(), x -> x.narrow(41, 50));
        Kept.refused("28 narrow, around it", Rich.opened(), x -> x.narrow(14, 41));
        Kept.refused("28 narrow to all", Rich.opened(), x -> x.narrow(Check.LEAST, Check.GREATEST));
        Kept.refused("28 narrow, low far outside", Rich.opened(), x -> x.narrow(Check.LEAST, 20));
        Kept.refused("28 narrow, high far outside", Rich.opened(), x -> x.narrow(20, Check.GREATEST));
        Gapline y = Rich.opened();
        y.narrow(20, 30);
        Kept.refused("28 narrow, back to a wider one", y, x -> x.narrow(15, 40));
    }

    private static void windowPut() {
        Kept.refused("29 windowPut, never a window", new Gapline(), x -> x.windowPut(0));
        Kept.refused("29 windowPut, a closed window", Rich.shut(), x -> x.windowPut(5));
        Kept.refused("29 windowPut, a closed window, there", Rich.shut(), x -> x.windowPut(2));
        Kept.refused("29 windowPut, just below it", Rich.opened(), x -> x.windowPut(14));
        Kept.refused("29 windowPut, just above it", Rich.opened(), x -> x.windowPut(41));
        Kept.refused("29 windowPut, below it, there", Rich.opened(), x -> x.windowPut(10));
        Kept.refused("29 windowPut, above it, there", Rich.opened(), x -> x.windowPut(50));
        Kept.refused("29 windowPut, least", Rich.opened(), x -> x.windowPut(Check.LEAST));
        Kept.refused("29 windowPut, greatest", Rich.opened(), x -> x.windowPut(Check.GREATEST));
        Kept.refused("29 windowPut, a full line", Rich.object(), x -> x.windowPut(26));
        Kept.refused("29 windowPut, a full line, at the bound", Rich.object(), x -> x.windowPut(25));
        Kept.refused("29 windowPut, a full line, outside", Rich.object(), x -> x.windowPut(96));
        Kept.refused("29 windowPut, a full line, outside, there", Rich.object(), x -> x.windowPut(100));
        Kept.answers("29 windowPut, a full line, there", Rich.object(), x -> x.windowPut(30), 0);
    }

    private static void windowTake() {
        Kept.refused("30 windowTake, never a window", LinePutTest.with(0, 3), x -> x.windowTake(3));
        Kept.refused("30 windowTake, a closed window", Rich.shut(), x -> x.windowTake(2));
        Kept.refused("30 windowTake, a closed window, not there", Rich.shut(), x -> x.windowTake(5));
        Kept.answers("30 windowTake, outside, there", Rich.opened(), x -> x.windowTake(10), 0);
        Kept.answers("30 windowTake, outside, not there", Rich.opened(), x -> x.windowTake(14), 0);
        Kept.answers("30 windowTake, above it, there", Rich.opened(), x -> x.windowTake(50), 0);
        Kept.answers("30 windowTake, inside, not there", Rich.opened(), x -> x.windowTake(15), 0);
    }

    private static void windowRank() {
        Kept.refused("33 windowRank, never a window", new Gapline(), x -> x.windowRank(0));
        Kept.refused("33 windowRank, a closed window", Rich.shut(), x -> x.windowRank(2));
        Kept.refused("33 windowRank, just below it", Rich.opened(), x -> x.windowRank(14));
        Kept.refused("33 windowRank, just above it", Rich.opened(), x -> x.windowRank(41));
        Kept.refused("33 windowRank, below it, there", Rich.opened(), x -> x.windowRank(10));
        Kept.refused("33 windowRank, above it, there", Rich.opened(), x -> x.windowRank(50));
        Kept.refused("33 windowRank, least", Rich.opened(), x -> x.windowRank(Check.LEAST));
        Kept.refused("33 windowRank, greatest", Rich.opened(), x -> x.windowRank(Check.GREATEST));
        Kept.answers("33 windowRank, least bound", Rich.opened(), x -> x.windowRank(15), 0);
        Kept.answers("33 windowRank, greatest bound", Rich.opened(), x -> x.windowRank(40), 2);
    }

    private static void reserve() {
        Kept.refused("35 reserve the same", Rich.object(), x -> x.reserve(30, 39));
        Kept.refused("35 reserve, meets at its least", Rich.object(), x -> x.reserve(20, 30));
        Kept.refused("35 reserve, meets at its greatest", Rich.object(), x -> x.reserve(39, 50));
        Kept.refused("35 reserve, meets inside", Rich.object(), x -> x.reserve(33, 35));
        Kept.refused("35 reserve, meets around", Rich.object(), x -> x.reserve(29, 40));
        Kept.refused("35 reserve, meets two", Rich.object(), x -> x.reserve(5, 15));
        Kept.refused("35 reserve, meets all",
                Rich.object(), x -> x.reserve(Check.LEAST, Check.GREATEST));
        Kept.refused("35 reserve, meets at the least number",
                Rich.object(), x -> x.reserve(Check.LEAST, Check.LEAST));
        Kept.refused("35 reserve, meets at the greatest number",
                Rich.object(), x -> x.reserve(Check.GREATEST, Check.GREATEST));
        Kept.refused("35 reserve, 16 there", Rich.sixteen(), x -> x.reserve(9, 9));
        Kept.refused("35 reserve, 16 there, ahead", Rich.sixteen(), x -> x.reserve(Check.LEAST, -1));
        Kept.refused("35 reserve, 16 there, behind", Rich.sixteen(), x -> x.reserve(159, Check.GREATEST));
        Kept.refused("35 reserve, 16 there, and meets one", Rich.sixteen(), x -> x.reserve(8, 9));
        for (int number : new int[] {Check.LEAST, 0, Check.GREATEST}) {
            Kept.refused("35 reserve, all taken " + number, Rich.taken(), x -> x.reserve(number, number));
        }
    }

    private static void merge() {
        Kept.refused("37 merge, no stall", new Gapline(), x -> x.merge(0));
        Kept.refused("37 merge, no stall, least", new Gapline(), x -> x.merge(Check.LEAST));
        Kept.refused("37 merge, no stall, greatest", new Gapline(), x -> x.merge(Check.GREATEST));
        Kept.refused("37 merge, just ahead of a stall", Rich.object(), x -> x.merge(-1));
        Kept.refused("37 merge, just behind a stall", Rich.object(), x -> x.merge(20));
        Kept.refused("37 merge, behind the least number", Rich.object(), x -> x.merge(Check.LEAST + 1));
        Kept.refused("37 merge, ahead of the greatest", Rich.object(), x -> x.merge(Check.GREATEST - 1));
        Kept.answers("37 merge, free numbers between", Rich.object(), x -> x.merge(10), 0);
        Kept.answers("37 merge, the last one", Rich.object(), x -> x.merge(Check.GREATEST), 0);
        Gapline y = new Gapline();
        y.reserve(0, 4);
        y.reserve(6, 9);
        Kept.answers("37 merge, one free number between", y, x -> x.merge(4), 0);
    }

    /** What is told without a window where no -9 is named: nothing is counted. */
    private static void otherWithoutWindow() {
        for (Gapline y : new Gapline[] {LinePutTest.with(0, 3), Rich.shut()}) {
            Kept.answers("31 windowPoll first, no window", y, x -> x.windowPoll(false), "");
            Kept.answers("31 windowPoll last, no window", y, x -> x.windowPoll(true), "");
            Kept.answers("32 windowNear, no window", y, x -> x.windowNear(3, 0), "");
            Kept.answers("34 window, no window", y, x -> x.window(3), "");
        }
    }

    /** A NUMBER -9 is told where a text or a count may be one; it is no refusal. */
    private static void numbersNine() {
        Gapline y = LinePutTest.with(0, -9);
        y.look(0, -9, -9);
        Kept.answers("14 end -9", y, x -> x.end(0, true), "-9");
        Kept.answers("15 near -9", y, x -> x.near(0, -9, 0), "-9");
        Kept.answers("19 nth -9", y, x -> x.nth(0, 0, false), "-9");
        Kept.answers("20 chain to -9", y, x -> x.chain(0, -10, 1), "-9");
        Gapline z = LinePutTest.with(0, -9);
        z.look(0, -9, -9);
        Kept.answers("24 text -9", z, x -> x.text(0, false), "-9");
        Kept.answers("32 windowNear -9", z, x -> x.windowNear(0, 2), "-9");
        Kept.answers("34 window from -9", z, x -> x.window(1), "-9");
        Kept.answers("34 window shows -9", z, x -> x.window(4), "-9");
        Check.same("31 windowPoll -9", z.windowPoll(true), "-9");
        z.put(0, -9);
        Check.same("4 poll -9", z.poll(0, false), "-9");
        Check.same("50 numbers -9 are not counted", z.house(5), 0);
    }

    private static void placesNine() {
        Gapline y = new Gapline();
        y.reserve(Check.LEAST, -10);
        y.bar(1, -9, 0, -9);
        Kept.answers("40 fit -9", y, x -> x.fit(5), "-9");
        Kept.answers("49 ofBar begins at -9", y, x -> x.ofBar(1, 0), "-9");
        Kept.answers("49 ofBar height -9", y, x -> x.ofBar(1, 2), "-9");
        Gapline z = new Gapline();
        Check.same("45 sweep to -9", z.sweep(-9), 0);
        Kept.answers("50 house, sweep -9", z, x -> x.house(4), -9);
        Kept.answers("47 beside -9", z, x -> x.beside(-9, true), -1);
        Check.same("50 places -9 are not counted", y.house(5) + z.house(5), 0);
    }

    private static void eachIsCounted() {
        Gapline x = LinePutTest.full(0);
        for (int i = 1; i <= 200; i++) {
            Check.same("50 refused again", x.put(0, 1), -9);
            Check.same("50 counted again", x.house(5), i);
        }
        Check.same("50 refusals are no knocks", x.house(6), 0);
    }
}
