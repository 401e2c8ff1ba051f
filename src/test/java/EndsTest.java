/** The least and the greatest number (-2147483648 and 2147483647) in each place that takes any number. */
public final class EndsTest {
    private static final int LEAST = Check.LEAST;
    private static final int GREATEST = Check.GREATEST;

    public static void main(String[] args) {
        comeAndGo();
        cuts();
        pairs();
        nearThere();
        nearNotThere();
        counts();
        chains();
        distances();
        windowBounds();
        windowUse();
        stallsAtEnds();
        stallsOfAll();
        stretchesAtEnds();
        mergesAtEnds();
        barPlaces();
        barHeights();
        sweeps();
        whole();
        Check.end();
    }

    private static void comeAndGo() {
        for (int number : new int[] {LEAST, GREATEST}) {
            Gapline x = new Gapline();
            Check.same("2 put " + number, x.put(0, number), 1);
            Kept.answers("2 put again " + number, x, y -> y.put(0, number), 0);
            Kept.answers("13 has " + number, x, y -> y.has(0, number), true);
            Kept.answers("3 take its neighbour " + number, x, y -> y.take(0, number ^ 1), 0);
            Check.same("3 take " + number, x.take(0, number), 1);
            Check.same("3 take again " + number, x.take(0, number), 0);
            Check.same("13 has no more " + number, x.has(0, number), false);
        }
        Gapline x = Rich.ends();
        Check.same("13 has not beside the least", x.has(0, LEAST + 1), false);
        Check.same("13 has not beside the greatest", x.has(0, GREATEST - 1), false);
        Check.same("24 text", x.text(0, false), "-2147483648 2147483647");
        Check.same("24 text back", x.text(0, true), "2147483647 -2147483648");
        Check.same("14 end first", x.end(0, false), "-2147483648");
        Check.same("14 end last", x.end(0, true), "2147483647");
        Check.same("19 nth back", x.nth(0, 1, true), "-2147483648");
        Check.same("4 poll last", x.poll(0, true), "2147483647");
        Check.same("4 poll first", x.poll(0, false), "-2147483648");
        Gapline y = new Gapline();
        for (int number : new int[] {GREATEST, LEAST, -1, GREATEST - 1, 0, LEAST + 1}) {
            y.put(3, number);
        }
        Check.same("2 put in order", y.text(3, false), "-2147483648 -2147483647 -1 0 2147483646 2147483647");
    }

    private static void cuts() {
        Kept.answers("6 cut below the least", Rich.ends(), x -> x.cut(0, LEAST, false), 0);
        Check.same("6 cut from the least on", Rich.ends().cut(0, LEAST, true), 2);
        Check.same("6 cut below the greatest", Rich.ends().cut(0, GREATEST, false), 1);
        Check.same("6 cut from the greatest on", Rich.ends().cut(0, GREATEST, true), 1);
        Check.same("7 cutBetween all", Rich.ends().cutBetween(0, LEAST, GREATEST), 2);
        Check.same("7 cutBetween the least", Rich.ends().cutBetween(0, LEAST, LEAST), 1);
        Check.same("7 cutBetween the greatest", Rich.ends().cutBetween(0, GREATEST, GREATEST), 1);
        Check.same("7 cutBetween up to 0", Rich.ends().cutBetween(0, LEAST, 0), 1);
        Check.same("7 cutBetween from 0 on", Rich.ends().cutBetween(0, 0, GREATEST), 1);
        Kept.answers("7 cutBetween all but the ends",
                Rich.ends(), x -> x.cutBetween(0, LEAST + 1, GREATEST - 1), 0);
    }

    private static void pairs() {
        Gapline x = LinePutTest.add(Rich.ends(), 1, LEAST, 0);
        Kept.answers("25 holds not", x, y -> y.holds(0, 1), false);
        Kept.answers("26 areAlike not", x, y -> y.areAlike(0, 1), false);
        Check.same("8 join", x.join(1, 0), 1);
        Check.same("8 join text", x.text(1, false), "-2147483648 0 2147483647");
        Check.same("25 holds then", x.holds(1, 0), true);
        Check.same("9 less", x.less(1, 0), 2);
        Check.same("9 less leaves", x.text(1, false), "0");
        Check.same("10 common", x.common(0, 1), 2);
        Gapline z = LinePutTest.add(Rich.ends(), 1, LEAST, GREATEST);
        Check.same("26 areAlike", z.areAlike(0, 1), true);
        Check.same("10 common keeps the ends", z.common(0, 1), 0);
        Check.same("11 copy", z.copy(2, 0), 2);
        Check.same("11 copy text", z.text(2, false), "-2147483648 2147483647");
    }

    private static void nearThere() {
        String[][] due = {
            {"-2147483648", "-2147483648", "", "2147483647"},
            {"-2147483648", "2147483647", "-2147483648", "2147483647"},
            {"-2147483648", "2147483647", "-2147483648", "2147483647"},
            {"-2147483648", "2147483647", "-2147483648", "2147483647"},
            {"2147483647", "2147483647", "-2147483648", ""},
        };
        int[] numbers = {LEAST, LEAST + 1, 0, GREATEST - 1, GREATEST};
        Gapline x = Rich.ends();
        x.look(0, LEAST, GREATEST);
        for (int i = 0; i < numbers.length; i++) {
            for (int what = 0; what <= 3; what++) {
                String at = " " + numbers[i] + " what " + what;
                Check.same("15 near" + at, x.near(0, numbers[i], what), due[i][what]);
                Check.same("32 windowNear" + at, x.windowNear(numbers[i], what), due[i][what]);
            }
        }
    }

    private static void nearNotThere() {
        Gapline x = LinePutTest.with(0, 5);
        x.look(0, 4, 6);
        for (int what = 0; what <= 3; what++) {
            boolean isUp = what == 1 || what == 3;
            Check.same("15 near the least, what " + what, x.near(0, LEAST, what), isUp ? "5" : "");
            Check.same("15 near the greatest, what " + what, x.near(0, GREATEST, what), isUp ? "" : "5");
            Check.same("32 windowNear the least, what " + what, x.windowNear(LEAST, what), isUp ? "5" : "");
            Check.same("32 windowNear the greatest, what " + what,
                    x.windowNear(GREATEST, what), isUp ? "" : "5");
        }
    }

    private static void counts() {
        Gapline x = LinePutTest.add(Rich.ends(), 0, 0);
        int[][] ranks = {{LEAST, 0, 1}, {LEAST + 1, 1, 1}, {0, 1, 2}, {GREATEST - 1, 2, 2}, {GREATEST, 2, 3}};
        for (int[] each : ranks) {
            Check.same("16 rank " + each[0], x.rank(0, each[0], false), each[1]);
            Check.same("16 rank in " + each[0], x.rank(0, each[0], true), each[2]);
            Check.same("17 beyond " + each[0], x.beyond(0, each[0], false), 3 - each[2]);
            Check.same("17 beyond in " + each[0], x.beyond(0, each[0], true), 3 - each[1]);
        }
        Check.same("18 between none counts", x.between(0, LEAST, GREATEST, false, false), 1);
        Check.same("18 between low counts", x.between(0, LEAST, GREATEST, true, false), 2);
        Check.same("18 between high counts", x.between(0, LEAST, GREATEST, false, true), 2);
        Check.same("18 between both count", x.between(0, LEAST, GREATEST, true, true), 3);
        for (int number : new int[] {LEAST, GREATEST}) {
            Check.same("18 alike, both " + number, x.between(0, number, number, true, true), 1);
            Check.same("18 alike, low " + number, x.between(0, number, number, true, false), 0);
            Check.same("18 alike, high " + number, x.between(0, number, number, false, true), 0);
            Check.same("18 alike, none " + number, x.between(0, number, number, false, false), 0);
            Check.same("18 alike, not there " + number,
                    new Gapline().between(0, number, number, true, true), 0);
        }
    }

    private static void chains() {
        Gapline x = Rich.ends();
        Check.same("20 chain from the least", x.chain(0, LEAST, 1), "2147483647");
        Check.same("20 chain from the least, 2", x.chain(0, LEAST, 2), "");
        Check.same("20 chain from the greatest", x.chain(0, GREATEST, 1), "");
        Check.same("20 chain to the greatest", x.chain(0, GREATEST - 1, 1), "2147483647");
        Check.same("19 nth as far as can be", x.nth(0, GREATEST, false), "");
        Check.same("19 nth as far back as can be", x.nth(0, GREATEST, true), "");
        Gapline y = LinePutTest.with(0, 7);
        Check.same("20 chain from below all", y.chain(0, LEAST, 1), "7");
    }

    private static void distances() {
        Gapline x = Rich.ends();
        Check.same("21 room", x.room(0, 0), "4294967295");
        Check.same("21 room beside the least", x.room(0, LEAST + 1), "4294967295");
        Check.same("21 room beside the greatest", x.room(0, GREATEST - 1), "4294967295");
        Check.same("21 room at the least", x.room(0, LEAST), "");
        Check.same("21 room at the greatest", x.room(0, GREATEST), "");
        Check.same("22 widest", x.widest(0), "4294967295@-2147483648");
        Check.same("23 spread", x.spread(0), "4294967295");
        x.put(0, -1);
        Check.same("22 widest, the upper one", x.widest(0), "2147483648@-1");
        Check.same("21 room around it", x.room(0, -1), "4294967295");
        x.put(0, 0);
        Check.same("22 widest, both alike", x.widest(0), "2147483647@-2147483648");
        Check.same("23 spread of the least", LinePutTest.with(0, LEAST).spread(0), "0");
        Check.same("23 spread of the greatest", LinePutTest.with(0, GREATEST).spread(0), "0");
        Check.same("23 spread to 0", LinePutTest.with(0, LEAST, 0).spread(0), "2147483648");
        Check.same("23 spread from 0", LinePutTest.with(0, 0, GREATEST).spread(0), "2147483647");
        Check.same("23 spread to 1", LinePutTest.with(0, LEAST, 1).spread(0), "2147483649");
        Check.same("22 widest beside the ends",
                LinePutTest.with(0, LEAST, LEAST + 1, GREATEST - 1, GREATEST).widest(0), "4294967293@-2147483647");
    }

    private static void windowBounds() {
        Gapline x = LinePutTest.add(Rich.ends(), 0, 0);
        Check.same("27 look at all", x.look(0, LEAST, GREATEST), 3);
        Check.same("34 window least", x.window(1), "-2147483648");
        Check.same("34 window greatest", x.window(2), "2147483647");
        Check.same("34 window shows", x.window(4), "-2147483648 0 2147483647");
        Check.same("28 narrow to all", x.narrow(LEAST, GREATEST), 3);
        Check.same("28 narrow to all but the least", x.narrow(LEAST + 1, GREATEST), 2);
        Kept.refused("28 narrow back to the least", x, y -> y.narrow(LEAST, GREATEST));
        Check.same("28 narrow to all but the ends", x.narrow(LEAST + 1, GREATEST - 1), 1);
        Kept.refused("28 narrow back to the greatest", x, y -> y.narrow(0, GREATEST));
        for (int number : new int[] {LEAST, GREATEST}) {
            Gapline y = Rich.ends();
            Check.same("27 look at " + number, y.look(0, number, number), 1);
            Check.same("28 narrow to " + number, y.narrow(number, number), 1);
            Check.same("34 window at " + number, y.window(4), "" + number);
        }
    }

    private static void windowUse() {
        for (int number : new int[] {LEAST, GREATEST}) {
            Gapline x = new Gapline();
            x.look(2, LEAST, GREATEST);
            Check.same("29 windowPut " + number, x.windowPut(number), 1);
            Check.same("29 windowPut again " + number, x.windowPut(number), 0);
            Check.same("33 windowRank of itself " + number, x.windowRank(number), 0);
            Check.same("30 windowTake " + number, x.windowTake(number), 1);
            Check.same("30 windowTake again " + number, x.windowTake(number), 0);
            x.look(2, number, number);
            Check.same("29 windowPut into one number " + number, x.windowPut(number), 1);
            Kept.refused("29 windowPut beside " + number, x, y -> y.windowPut(number ^ 1));
            Kept.refused("33 windowRank beside " + number, x, y -> y.windowRank(number ^ 1));
            Check.same("31 windowPoll " + number, x.windowPoll(number > 0), "" + number);
        }
        Gapline y = Rich.ends();
        y.look(0, LEAST, GREATEST);
        Check.same("33 windowRank of the greatest", y.windowRank(GREATEST), 1);
        Check.same("33 windowRank of the least", y.windowRank(LEAST), 0);
        Check.same("31 windowPoll last", y.windowPoll(true), "2147483647");
        Check.same("31 windowPoll first", y.windowPoll(false), "-2147483648");
        Check.same("31 windowPoll none", y.windowPoll(false), "");
    }

    private static void stallsAtEnds() {
        Gapline x = new Gapline();
        Check.same("35 reserve the least", x.reserve(LEAST, LEAST), 1);
        Check.same("35 reserve the greatest", x.reserve(GREATEST, GREATEST), 2);
        Kept.refused("35 reserve all, ends taken", x, y -> y.reserve(LEAST, GREATEST));
        Check.same("41 isFree between", x.isFree(LEAST + 1, GREATEST - 1), true);
        Check.same("41 isFree from the least", x.isFree(LEAST, LEAST + 5), false);
        Check.same("41 isFree to the greatest", x.isFree(GREATEST - 5, GREATEST), false);
        Check.same("38 stall at the least", x.stall(LEAST), "-2147483648..-2147483648");
        Check.same("38 stall at the greatest", x.stall(GREATEST), "2147483647..2147483647");
        Check.same("39 free between", x.free(0), "-2147483647..2147483646");
        Check.same("42 stalls size", x.stalls(1), "2");
        Check.same("42 stretches size", x.stalls(2), "4294967294");
        Check.same("42 how many stretches", x.stalls(3), "1");
        Check.same("42 stalls texts", x.stalls(4), "-2147483648..-2147483648 2147483647..2147483647");
        Check.same("35 reserve between", x.reserve(LEAST + 1, GREATEST - 1), 3);
        Check.same("42 no stretch", x.stalls(3), "0");
        Check.same("36 release between", x.release(0), "4294967294");
        Check.same("36 release the least", x.release(LEAST), "1");
        Check.same("36 release the greatest", x.release(GREATEST), "1");
    }

    private static void stallsOfAll() {
        for (int number : new int[] {LEAST, -1, 0, GREATEST}) {
            Kept.answers("38 stall, all " + number, Rich.taken(), x -> x.stall(number), "-2147483648..2147483647");
            Kept.answers("39 free, all " + number, Rich.taken(), x -> x.free(number), "");
            Kept.answers("37 merge, all " + number, Rich.taken(), x -> x.merge(number), 0);
            Kept.answers("41 isFree, all " + number, Rich.taken(), x -> x.isFree(number, number), false);
            Check.same("36 release, all " + number, Rich.taken().release(number), "4294967296");
            Kept.answers("38 stall, none " + number, new Gapline(), x -> x.stall(number), "");
            Kept.answers("39 free, none " + number, new Gapline(), x -> x.free(number), "-2147483648..2147483647");
            Kept.answers("36 release, none " + number, new Gapline(), x -> x.release(number), "");
        }
    }

    private static void stretchesAtEnds() {
        Gapline x = new Gapline();
        x.reserve(LEAST + 1, GREATEST - 1);
        Check.same("39 free the least alone", x.free(LEAST), "-2147483648..-2147483648");
        Check.same("39 free the greatest alone", x.free(GREATEST), "2147483647..2147483647");
        Check.same("40 fit the least alone", x.fit(1), "-2147483648");
        Check.same("40 fit 2 nowhere", x.fit(2), "");
        Check.same("42 two stretches", x.stalls(3), "2");
        Check.same("42 two stretches, size", x.stalls(2), "2");
        Check.same("35 reserve the least alone", x.reserve(LEAST, LEAST), 2);
        Check.same("40 fit the greatest alone", x.fit(1), "2147483647");
        Check.same("35 reserve the greatest alone", x.reserve(GREATEST, GREATEST), 3);
        Check.same("40 fit nowhere", x.fit(1), "");
        Gapline y = new Gapline();
        Check.same("40 fit as much as can be asked", y.fit(GREATEST), "-2147483648");
        y.reserve(LEAST, -1);
        Check.same("40 fit half of all", y.fit(GREATEST), "0");
        y.reserve(0, 0);
        Check.same("40 fit just", y.fit(GREATEST), "1");
        y.reserve(1, 1);
        Check.same("40 fit 1 too much", y.fit(GREATEST), "");
        Check.same("40 fit just, 1 less", y.fit(GREATEST - 1), "2");
    }

    private static void mergesAtEnds() {
        Gapline x = new Gapline();
        x.reserve(LEAST, LEAST);
        x.reserve(GREATEST, GREATEST);
        Kept.answers("37 merge, from the greatest not round to the least", x, y -> y.merge(GREATEST), 0);
        Kept.answers("37 merge, from the least not to the greatest", x, y -> y.merge(LEAST), 0);
        x.reserve(LEAST + 1, -1);
        x.reserve(0, GREATEST - 1);
        Check.same("37 merge at the greatest", x.merge(5), 1);
        Check.same("37 merge at the greatest text", x.stall(GREATEST), "0..2147483647");
        Check.same("37 merge at the least", x.merge(LEAST), 1);
        Check.same("37 merge at the least text", x.stall(LEAST), "-2147483648..-1");
        Check.same("37 merge across 0", x.merge(-7), 1);
        Check.same("37 merge to all", x.stalls(4), "-2147483648..2147483647");
        Kept.answers("37 merge, no next one", x, y -> y.merge(0), 0);
    }

    private static void barPlaces() {
        Gapline x = new Gapline();
        Check.same("43 bar of all", x.bar(0, LEAST, GREATEST, 0), 1);
        Check.same("43 bar at the least", x.bar(1, LEAST, LEAST + 1, 0), 0);
        Check.same("43 bar at the greatest", x.bar(2, GREATEST - 1, GREATEST, 0), 0);
        Check.same("49 ofBar begins", x.ofBar(0, 0), "-2147483648");
        Check.same("49 ofBar ends", x.ofBar(0, 1), "2147483647");
        Check.same("45 sweep to the least", x.sweep(LEAST), 2);
        Check.same("46 open at the least", x.open(), "0 1");
        Check.same("43 bar laid at the least", x.bar(5, LEAST, 0, 0), 1);
        Check.same("45 sweep beside the least", x.sweep(LEAST + 1), 2);
        Check.same("46 open beside the least", x.open(), "0 5");
        Check.same("45 sweep beside the greatest", x.sweep(GREATEST - 1), 2);
        Check.same("46 open beside the greatest", x.open(), "0 2");
        Check.same("45 sweep to the greatest", x.sweep(GREATEST), 0);
        Check.same("46 open at the greatest", x.open(), "");
        Check.same("43 bar never open at the greatest", x.bar(6, 0, GREATEST, 0), 0);
        Check.same("49 ofBar not open", x.ofBar(0, 3), "0");
        Check.same("44 lift", x.lift(0), 1);
    }

    private static void barHeights() {
        Gapline x = new Gapline();
        x.bar(3, 0, 1, LEAST);
        x.bar(1, 0, 1, GREATEST);
        x.bar(2, 0, 1, 0);
        x.bar(4, 0, 1, LEAST);
        x.bar(0, 0, 1, GREATEST);
        Check.same("46 open", x.open(), "3 4 2 0 1");
        Check.same("49 ofBar least height", x.ofBar(3, 2), "-2147483648");
        Check.same("49 ofBar greatest height", x.ofBar(1, 2), "2147483647");
        Check.same("47 beside below the least", x.beside(LEAST, true), -1);
        Check.same("47 beside above the least", x.beside(LEAST, false), 2);
        Check.same("47 beside below 1 more than the least", x.beside(LEAST + 1, true), 4);
        Check.same("47 beside below the greatest", x.beside(GREATEST, true), 2);
        Check.same("47 beside above the greatest", x.beside(GREATEST, false), -1);
        Check.same("47 beside above 1 less than the greatest", x.beside(GREATEST - 1, false), 0);
        Check.same("48 neighbours of the lowest", x.neighbours(3), "- 4");
        Check.same("48 neighbours of the highest", x.neighbours(1), "0 -");
        Check.same("48 neighbours across", x.neighbours(2), "4 0");
    }

    private static void sweeps() {
        Gapline x = new Gapline();
        for (int place : new int[] {LEAST, GREATEST, LEAST, 0, GREATEST}) {
            Check.same("45 sweep without bars " + place, x.sweep(place), 0);
            Check.same("50 house, sweep " + place, x.house(4), place);
        }
    }

    private static void whole() {
        for (int place : new int[] {LEAST, LEAST + 1, -1, 0, GREATEST - 1, GREATEST}) {
            Gapline x = LinePutTest.add(Rich.ends(), 0, -1, 0);
            x.look(0, LEAST, GREATEST);
            x.reserve(LEAST, -1);
            x.reserve(0, GREATEST);
            x.bar(0, LEAST, GREATEST, LEAST);
            x.bar(9, LEAST, LEAST + 1, GREATEST);
            x.bar(8, GREATEST - 1, GREATEST, GREATEST);
            x.sweep(place);
            Check.same("52 isSound, sweep " + place, x.isSound(), true);
            Check.same("53 digest, sweep " + place, x.digest(), WholeTest.told(x));
        }
        Check.same("52 isSound, all taken", Rich.taken().isSound(), true);
        Gapline taken = Rich.taken();
        Check.same("53 digest, all taken", taken.digest(), WholeTest.told(taken));
    }
}
