/** Promises 27 to 34 with a WINDOW that is closed or shows nothing, and what closes one or does not. */
public final class WindowLimitTest {
    public static void main(String[] args) {
        never();
        shut();
        blank();
        emptyLine();
        opensAgain();
        closedByCopy();
        notClosedByCopy();
        closedByAnother();
        eachMomentPutTake();
        eachMomentCuts();
        eachMomentPairs();
        sameLineAgain();
        fullLine();
        outsideStays();
        narrowSteps();
        everyBound();
        Check.end();
    }

    /** What a window that there is not answers: nothing is shown, and texts are "". */
    private static void without(String why, Gapline y) {
        Kept.refused("28 narrow, " + why, y, x -> x.narrow(0, 9));
        Kept.refused("29 windowPut, " + why, y, x -> x.windowPut(4));
        Kept.refused("30 windowTake, " + why, y, x -> x.windowTake(2));
        Kept.refused("33 windowRank, " + why, y, x -> x.windowRank(2));
    }

    private static void withoutTexts(String why, Gapline y) {
        Check.same("31 windowPoll first, " + why, y.windowPoll(false), "");
        Check.same("31 windowPoll last, " + why, y.windowPoll(true), "");
        for (int what = 0; what <= 3; what++) {
            Check.same("32 windowNear, " + why, y.windowNear(2, what), "");
            Check.same("32 windowNear, least, " + why, y.windowNear(Check.LEAST, what), "");
            Check.same("32 windowNear, greatest, " + why, y.windowNear(Check.GREATEST, what), "");
        }
        for (int what = 0; what <= 4; what++) {
            Check.same("34 window, " + why, y.window(what), "");
        }
        Check.same("50 refused, " + why, y.house(5), 0);
    }

    private static void never() {
        without("never a window", LinePutTest.with(0, 1, 2, 3));
        withoutTexts("never a window", LinePutTest.with(0, 1, 2, 3));
    }

    private static void shut() {
        without("a closed window", Rich.shut());
        withoutTexts("a closed window", Rich.shut());
        Gapline y = Rich.shut();
        withoutTexts("a closed window, its line stays", y);
        Check.same("11 copy closed it, its line stays", y.text(1, false), "1 2 3");
    }

    /** A window that shows nothing, though it is there: between two numbers of its line. */
    private static void blank() {
        Check.same("27 look, blank", LinePutTest.with(1, 10, 20).look(1, 11, 19), 0);
        for (int what = 0; what <= 3; what++) {
            int asked = what;
            for (int number : new int[] {Check.LEAST, 10, 11, 15, 19, 20, Check.GREATEST}) {
                Kept.answers("32 windowNear, blank " + number, Rich.blank(), x -> x.windowNear(number, asked), "");
            }
        }
        Kept.answers("28 narrow to itself, blank", Rich.blank(), x -> x.narrow(11, 19), 0);
        Check.same("28 narrow, blank", Rich.blank().narrow(12, 18), 0);
        for (int number : new int[] {Check.LEAST, 10, 11, 19, 20, Check.GREATEST}) {
            Kept.answers("30 windowTake, blank " + number, Rich.blank(), x -> x.windowTake(number), 0);
        }
        Kept.answers("31 windowPoll first, blank", Rich.blank(), x -> x.windowPoll(false), "");
        Kept.answers("31 windowPoll last, blank", Rich.blank(), x -> x.windowPoll(true), "");
        Kept.answers("33 windowRank least, blank", Rich.blank(), x -> x.windowRank(11), 0);
        Kept.answers("33 windowRank greatest, blank", Rich.blank(), x -> x.windowRank(19), 0);
        Kept.refused("33 windowRank below, blank", Rich.blank(), x -> x.windowRank(10));
        Kept.refused("33 windowRank above, blank", Rich.blank(), x -> x.windowRank(20));
        Kept.refused("29 windowPut below, blank", Rich.blank(), x -> x.windowPut(10));
        Kept.refused("29 windowPut above, blank", Rich.blank(), x -> x.windowPut(20));
        String[] due = {"1", "11", "19", "0", ""};
        for (int what = 0; what <= 4; what++) {
            int asked = what;
            Kept.answers("34 window, blank " + what, Rich.blank(), x -> x.window(asked), due[what]);
        }
        Gapline y = Rich.blank();
        Check.same("29 windowPut, blank", y.windowPut(15), 1);
        Check.same("34 window then", y.window(4), "15");
        Check.same("31 windowPoll then", y.windowPoll(true), "15");
        Check.same("34 window blank again", y.window(3), "0");
        Check.same("24 text of its line", y.text(1, false), "10 20");
    }

    private static void emptyLine() {
        Gapline x = new Gapline();
        Check.same("27 look, an empty line", x.look(2, -5, 5), 0);
        Check.same("31 windowPoll, an empty line", x.windowPoll(false), "");
        Check.same("30 windowTake, an empty line", x.windowTake(0), 0);
        Check.same("33 windowRank, an empty line", x.windowRank(5), 0);
        Check.same("34 window, an empty line", x.window(3), "0");
        Check.same("34 window texts, an empty line", x.window(4), "");
        Check.same("29 windowPut, an empty line", x.windowPut(-5), 1);
        Check.same("29 windowPut, then", x.windowPut(5), 1);
        Check.same("24 text then", x.text(2, false), "-5 5");
    }

    private static void opensAgain() {
        Gapline x = Rich.shut();
        Check.same("27 look after one was closed", x.look(1, 2, 9), 2);
        Check.same("29 windowPut then", x.windowPut(4), 1);
        Check.same("34 window then", x.window(4), "2 3 4");
        Check.same("24 text then", x.text(1, false), "1 2 3 4");
    }

    private static void closedByCopy() {
        for (int from = 0; from < 4; from++) {
            Gapline x = LinePutTest.with(2, 1, 2, 3);
            x.look(2, 0, 9);
            x.copy(2, from);
            for (int what = 0; what <= 4; what++) {
                Check.same("11 copy to its line from " + from, x.window(what), "");
            }
            Check.same("11 copy to its line is not refused", x.house(5), 0);
        }
        Gapline y = LinePutTest.full(0);
        y.look(0, 0, 9);
        y.copy(0, 0);
        Check.same("11 copy of a full line of itself", y.window(0), "");
        Check.same("29 windowPut then", y.windowPut(0), -9);
    }

    private static void notClosedByCopy() {
        for (int line : new int[] {0, 2, 3}) {
            for (int from = 0; from < 4; from++) {
                Gapline x = LinePutTest.with(1, 1, 2, 3);
                x.look(1, 2, 9);
                x.copy(line, from);
                Check.same("11 copy to " + line + " from " + from, x.window(0) + x.window(1) + x.window(2), "129");
                Check.same("11 copy leaves what it shows", x.window(4), "2 3");
            }
        }
        Gapline y = LinePutTest.with(1, 1, 2, 3);
        y.look(1, 2, 9);
        y.copy(0, 1);
        y.put(0, 4);
        y.clear(0);
        Check.same("34 window over the one line, not its copy", y.window(4), "2 3");
    }

    private static void closedByAnother() {
        Gapline x = LinePutTest.add(LinePutTest.with(0, 1, 2, 3), 1, 2, 3, 4);
        x.look(0, 0, 2);
        Check.same("27 look at another line", x.look(1, 3, 9), 2);
        Check.same("34 window line", x.window(0), "1");
        Check.same("34 window shows the other", x.window(4), "3 4");
        Check.same("29 windowPut comes to the other", x.windowPut(5), 1);
        Check.same("29 windowPut leaves the first", x.text(0, false), "1 2 3");
        x.copy(0, 0);
        Check.same("11 copy to the first one leaves it", x.window(0), "1");
        x.look(0, 5, 6);
        x.copy(1, 1);
        Check.same("11 copy to the one before leaves it", x.window(0), "0");
        Check.same("34 window has the new bounds", x.window(1) + x.window(2), "56");
    }

    private static void eachMomentPutTake() {
        Gapline x = Rich.opened();
        x.put(1, 16);
        Check.same("2 put is shown", x.window(4), "16 20 30 40");
        x.put(1, 14);
        Check.same("2 put outside is not", x.window(4), "16 20 30 40");
        x.take(1, 20);
        Check.same("3 take is shown", x.window(4), "16 30 40");
        x.poll(1, false);
        x.poll(1, false);
        Check.same("4 poll outside is not", x.window(4), "16 30 40");
        x.poll(1, false);
        Check.same("4 poll first is shown", x.window(3), "2");
        x.poll(1, true);
        x.poll(1, true);
        Check.same("4 poll last is shown", x.window(4), "30");
        x.clear(1);
        Check.same("5 clear is shown", x.window(3), "0");
        Check.same("5 clear leaves the window", x.window(0) + x.window(1) + x.window(2), "11540");
        x.put(1, 40);
        Check.same("2 put at the bound after clear", x.window(4), "40");
    }

    private static void eachMomentCuts() {
        Gapline x = Rich.opened();
        x.cut(1, 30, false);
        Check.same("6 cut below is shown", x.window(4), "30 40");
        x.cut(1, 40, true);
        Check.same("6 cut back is shown", x.window(4), "30");
        x.cutBetween(1, 25, 35);
        Check.same("7 cutBetween is shown", x.window(4), "");
        Check.same("7 cutBetween leaves the window", x.window(0) + x.window(1) + x.window(2), "11540");
    }

    private static void eachMomentPairs() {
        Gapline x = LinePutTest.add(Rich.opened(), 0, 20, 25, 60);
        x.join(1, 0);
        Check.same("8 join is shown", x.window(4), "20 25 30 40");
        x.less(1, 0);
        Check.same("9 less is shown", x.window(4), "30 40");
        x.put(0, 40);
        x.common(1, 0);
        Check.same("10 common is shown", x.window(4), "40");
        x.less(1, 1);
        Check.same("9 less of itself is shown", x.window(4), "");
        x.join(1, 0);
        Check.same("8 join again is shown", x.window(4), "20 25 40");
        Check.same("34 the window is the same", x.window(0) + x.window(1) + x.window(2), "11540");
    }

    private static void sameLineAgain() {
        Gapline x = Rich.opened();
        Check.same("27 look at the same line, wider", x.look(1, Check.LEAST, 100), 5);
        Check.same("34 window least", x.window(1), "-2147483648");
        Check.same("27 look at the same line, elsewhere", x.look(1, 46, 49), 0);
        Check.same("29 windowPut there", x.windowPut(46), 1);
        Kept.refused("29 windowPut where it was", x, y -> y.windowPut(25));
    }

    private static void fullLine() {
        Gapline x = LinePutTest.full(3);
        Check.same("27 look, full", x.look(3, 5, 185), 18);
        Kept.refused("29 windowPut, full", x, y -> y.windowPut(6));
        Check.same("30 windowTake, full", x.windowTake(50), 1);
        Check.same("29 windowPut, space again", x.windowPut(6), 1);
        Kept.refused("29 windowPut, full again", x, y -> y.windowPut(7));
        Check.same("31 windowPoll, full", x.windowPoll(false), "6");
        Check.same("29 windowPut, what went comes", x.windowPut(50), 1);
        Check.same("33 windowRank, full", x.windowRank(185), 18);
        Check.same("24 text, full", x.text(3, false),
                "0 10 20 30 40 50 60 70 80 90 100 110 120 130 140 150 160 170 180 190");
    }

    /** A window that is emptied leaves all that it does not show. */
    private static void outsideStays() {
        for (boolean isLast : new boolean[] {false, true}) {
            Gapline x = Rich.opened();
            String[] due = isLast ? new String[] {"40", "30", "20"} : new String[] {"20", "30", "40"};
            for (String each : due) {
                Check.same("31 windowPoll each", x.windowPoll(isLast), each);
            }
            Check.same("31 windowPoll none left", x.windowPoll(isLast), "");
            Check.same("31 windowPoll leaves the rest", x.text(1, false), "10 50");
        }
    }

    private static void narrowSteps() {
        Gapline x = Rich.opened();
        Check.same("28 narrow low alone", x.narrow(20, 40), 3);
        Check.same("28 narrow high alone", x.narrow(20, 39), 2);
        Check.same("28 narrow both by 1", x.narrow(21, 38), 1);
        Check.same("34 window after it", x.window(4), "30");
        Kept.refused("28 narrow, low 1 below", x, y -> y.narrow(20, 38));
        Kept.refused("28 narrow, high 1 above", x, y -> y.narrow(21, 39));
        Check.same("28 narrow to its least", x.narrow(21, 21), 0);
        Check.same("28 narrow to the same", x.narrow(21, 21), 0);
        Check.same("34 window least then", x.window(1) + x.window(2), "2121");
        Check.same("34 window over the same line", x.window(0), "1");
    }

    /** Each window over three numbers, with each number asked for, as near() and rank() tell by hand. */
    private static void everyBound() {
        int[] line = {2, 4, 5};
        for (int low = 1; low <= 6; low++) {
            for (int high = low; high <= 6; high++) {
                Gapline x = LinePutTest.with(1, line);
                Gapline shown = new Gapline();
                for (int number : line) {
                    if (number >= low && number <= high) {
                        shown.put(0, number);
                    }
                }
                String at = " " + low + ".." + high;
                Check.same("27 look" + at, x.look(1, low, high), shown.size(0));
                Check.same("34 window" + at, x.window(4), shown.text(0, false));
                for (int number = 0; number <= 7; number++) {
                    for (int what = 0; what <= 3; what++) {
                        Check.same("32 windowNear " + number + at,
                                x.windowNear(number, what), shown.near(0, number, what));
                    }
                    boolean isIn = number >= low && number <= high;
                    Check.same("33 windowRank " + number + at,
                            x.windowRank(number), isIn ? shown.rank(0, number, false) : -9);
                    Gapline y = LinePutTest.with(1, line);
                    y.look(1, low, high);
                    Check.same("30 windowTake " + number + at,
                            y.windowTake(number), shown.has(0, number) ? 1 : 0);
                }
            }
        }
    }
}
