/** Promises 27 to 34: the window. */
public final class WindowTest {
    public static void main(String[] args) {
        look();
        narrow();
        windowPut();
        windowTake();
        windowPoll();
        windowNear();
        windowRank();
        window();
        Check.end();
    }

    private static void look() {
        Gapline x = LinePutTest.with(1, 10, 20, 30);
        Check.same("look", x.look(1, 10, 20), 2);
        Check.same("look shows", x.window(4), "10 20");
        Check.same("look at all", x.look(1, Check.LEAST, Check.GREATEST), 3);
        Check.same("look at one", x.look(1, 30, 30), 1);
        Check.same("look at none", x.look(1, 31, 31), 0);
        Check.same("look at an empty line", x.look(0, 0, 9), 0);
        Check.same("look closes the one before", x.window(0), "0");
        Check.badArgument("look low above high", () -> x.look(1, 2, 1));
        for (int bad : new int[] {-1, 4, Check.LEAST, Check.GREATEST}) {
            Check.noLine("look line " + bad, () -> x.look(bad, 1, 2));
            Check.noLine("look line first " + bad, () -> x.look(bad, 2, 1));
        }
        Check.same("look that throws leaves it", x.window(0) + x.window(1) + x.window(2), "009");
    }

    private static void narrow() {
        Gapline x = Rich.opened();
        Check.same("narrow", x.narrow(20, 30), 2);
        Check.same("narrow bounds", x.window(1) + ".." + x.window(2), "20..30");
        Check.same("narrow to the same", x.narrow(20, 30), 2);
        Check.same("narrow low outside", x.narrow(19, 25), -9);
        Check.same("narrow high outside", x.narrow(25, 31), -9);
        Check.same("narrow both outside", x.narrow(40, 50), -9);
        Check.same("narrow refused counts", x.house(5), 3);
        Check.same("narrow refused leaves it", x.window(4), "20 30");
        Check.same("narrow to one number", x.narrow(25, 25), 0);
        Check.badArgument("narrow low above high", () -> x.narrow(26, 25));
        Check.badArgument("narrow goes ahead of -9", () -> new Gapline().narrow(1, 0));
        Gapline y = new Gapline();
        Check.same("narrow without a window", y.narrow(0, 0), -9);
        Check.same("narrow without a window counts", y.house(5), 1);
        y.look(0, Check.LEAST, Check.GREATEST);
        Check.same("narrow as wide", y.narrow(Check.LEAST, Check.GREATEST), 0);
    }

    private static void windowPut() {
        Gapline x = Rich.opened();
        Check.same("windowPut", x.windowPut(25), 1);
        Check.same("windowPut comes to the line", x.text(1, false), "10 20 25 30 40 50");
        Check.same("windowPut again", x.windowPut(25), 0);
        Check.same("windowPut low bound", x.windowPut(15), 1);
        Check.same("windowPut high bound", x.windowPut(40), 0);
        Check.same("windowPut below it", x.windowPut(14), -9);
        Check.same("windowPut above it", x.windowPut(41), -9);
        Check.same("windowPut above it, there", x.windowPut(50), -9);
        Check.same("windowPut refused counts", x.house(5), 3);
        Check.same("windowPut refused changes nothing", x.size(1), 7);
        Gapline y = LinePutTest.full(2);
        y.look(2, 0, 100);
        Check.same("windowPut to a full line", y.windowPut(5), -9);
        Check.same("windowPut there in a full line", y.windowPut(10), 0);
        Check.same("windowPut full counts", y.house(5), 1);
        Gapline z = new Gapline();
        Check.same("windowPut without a window", z.windowPut(0), -9);
        Check.same("windowPut without a window counts", z.house(5), 1);
    }

    private static void windowTake() {
        Gapline x = Rich.opened();
        Check.same("windowTake", x.windowTake(20), 1);
        Check.same("windowTake goes from the line", x.text(1, false), "10 30 40 50");
        Check.same("windowTake again", x.windowTake(20), 0);
        Check.same("windowTake below it", x.windowTake(10), 0);
        Check.same("windowTake above it", x.windowTake(50), 0);
        Check.same("windowTake at its bound", x.windowTake(40), 1);
        Check.same("windowTake leaves", x.text(1, false), "10 30 50");
        Check.same("windowTake is not refused", x.house(5), 0);
        LinePutTest.add(x, 1, 29, 31);
        Check.same("windowTake beside others", x.windowTake(30), 1);
        Check.same("windowTake takes one alone", x.text(1, false), "10 29 31 50");
        Gapline y = LinePutTest.with(0, 0);
        Check.same("windowTake without a window", y.windowTake(0), -9);
        Check.same("windowTake without a window counts", y.house(5), 1);
        Check.same("windowTake refused changes nothing", y.size(0), 1);
    }

    private static void windowPoll() {
        Gapline x = Rich.opened();
        Check.same("windowPoll last", x.windowPoll(true), "40");
        Check.same("windowPoll first", x.windowPoll(false), "20");
        Check.same("windowPoll leaves", x.text(1, false), "10 30 50");
        Check.same("windowPoll only one", x.windowPoll(false), "30");
        Check.same("windowPoll none first", x.windowPoll(false), "");
        Check.same("windowPoll none last", x.windowPoll(true), "");
        Check.same("windowPoll leaves what is outside", x.text(1, false), "10 50");
        Check.same("windowPoll without a window", new Gapline().windowPoll(true), "");
        Check.same("windowPoll is not refused", x.house(5), 0);
    }

    private static void windowNear() {
        Gapline x = Rich.opened();
        Check.same("windowNear at most", x.windowNear(100, 0), "40");
        Check.same("windowNear at most, there", x.windowNear(30, 0), "30");
        Check.same("windowNear at most, none", x.windowNear(19, 0), "");
        Check.same("windowNear at most, outside", x.windowNear(12, 0), "");
        Check.same("windowNear at least", x.windowNear(-100, 1), "20");
        Check.same("windowNear at least, there", x.windowNear(40, 1), "40");
        Check.same("windowNear at least, none", x.windowNear(41, 1), "");
        Check.same("windowNear below", x.windowNear(60, 2), "40");
        Check.same("windowNear below, there", x.windowNear(40, 2), "30");
        Check.same("windowNear below, none", x.windowNear(20, 2), "");
        Check.same("windowNear above", x.windowNear(Check.LEAST, 3), "20");
        Check.same("windowNear above, there", x.windowNear(30, 3), "40");
        Check.same("windowNear above, none", x.windowNear(40, 3), "");
        x.narrow(21, 29);
        for (int what = 0; what <= 3; what++) {
            Check.same("windowNear shows none", x.windowNear(25, what), "");
            Check.same("windowNear without", new Gapline().windowNear(0, what), "");
        }
        for (int bad : new int[] {-1, 4, Check.LEAST, Check.GREATEST}) {
            Check.badArgument("windowNear what " + bad, () -> x.windowNear(0, bad));
            Check.badArgument("windowNear without " + bad, () -> new Gapline().windowNear(0, bad));
        }
    }

    private static void windowRank() {
        Gapline x = Rich.opened();
        Check.same("windowRank low bound", x.windowRank(15), 0);
        Check.same("windowRank of the first", x.windowRank(20), 0);
        Check.same("windowRank behind the first", x.windowRank(21), 1);
        Check.same("windowRank high bound", x.windowRank(40), 2);
        Check.same("windowRank below it", x.windowRank(14), -9);
        Check.same("windowRank above it", x.windowRank(41), -9);
        Check.same("windowRank refused counts", x.house(5), 2);
        Gapline y = new Gapline();
        Check.same("windowRank without a window", y.windowRank(0), -9);
        Check.same("windowRank without a window counts", y.house(5), 1);
    }

    private static void window() {
        Gapline x = Rich.opened();
        Check.same("window line", x.window(0), "1");
        Check.same("window least", x.window(1), "15");
        Check.same("window greatest", x.window(2), "40");
        Check.same("window how many", x.window(3), "3");
        Check.same("window numbers", x.window(4), "20 30 40");
        x.put(1, 16);
        x.take(1, 30);
        Check.same("window shows at each moment", x.window(4), "16 20 40");
        x.clear(1);
        x.join(1, 1);
        x.less(1, 2);
        x.common(1, 2);
        Check.same("window stays over a line that was emptied", x.window(3), "0");
        Check.same("window of none shown", x.window(4), "");
        x.look(3, Check.LEAST, Check.GREATEST);
        Check.same("window bounds", x.window(1) + x.window(2), "-21474836482147483647");
        for (int what = 0; what <= 4; what++) {
            Check.same("window without", new Gapline().window(what), "");
        }
        for (int bad : new int[] {-1, 5, Check.LEAST, Check.GREATEST}) {
            Check.badArgument("window what " + bad, () -> x.window(bad));
            Check.badArgument("window without " + bad, () -> new Gapline().window(bad));
        }
    }
}
