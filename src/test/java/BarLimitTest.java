/** Promises 43 to 49 without a BAR, with all ten, with like heights, and at the edges of being OPEN. */
public final class BarLimitTest {
    public static void main(String[] args) {
        none();
        ten();
        alike();
        besideAlike();
        besideEach();
        edges();
        onAndBack();
        inPlaceOfItself();
        lifted();
        notOpen();
        twoAlone();
        Check.end();
    }

    private static void none() {
        Kept.answers("46 open, none", new Gapline(), x -> x.open(), "");
        Kept.answers("45 sweep, none", new Gapline(), x -> x.sweep(0), 0);
        for (int height : new int[] {Check.LEAST, 0, Check.GREATEST}) {
            Kept.answers("47 beside below, none " + height, new Gapline(), x -> x.beside(height, true), -1);
            Kept.answers("47 beside above, none " + height, new Gapline(), x -> x.beside(height, false), -1);
        }
        for (int bar = 0; bar < 10; bar++) {
            int asked = bar;
            Kept.answers("44 lift, none " + bar, new Gapline(), x -> x.lift(asked), 0);
            Kept.answers("48 neighbours, none " + bar, new Gapline(), x -> x.neighbours(asked), "");
            for (int what = 0; what <= 3; what++) {
                int told = what;
                Kept.answers("49 ofBar, none " + bar, new Gapline(), x -> x.ofBar(asked, told), "");
            }
        }
    }

    private static void ten() {
        Gapline x = Rich.ten();
        Check.same("46 open, ten", x.open(), "9 8 7 6 5 4 3 2 1 0");
        Check.same("50 house, ten lie", x.house(2), 10);
        Check.same("50 house, ten open", x.house(3), 10);
        for (int bar = 0; bar < 10; bar++) {
            String below = bar == 9 ? "-" : "" + (bar + 1);
            String above = bar == 0 ? "-" : "" + (bar - 1);
            Check.same("48 neighbours, ten " + bar, x.neighbours(bar), below + " " + above);
            Check.same("47 beside below, ten " + bar, x.beside(-bar, true), bar == 9 ? -1 : bar + 1);
            Check.same("47 beside above, ten " + bar, x.beside(-bar, false), bar - 1);
            Check.same("49 ofBar, ten " + bar, x.ofBar(bar, 2), "" + -bar);
        }
        Check.same("45 sweep to 1 less than the end", x.sweep(99), 10);
        Check.same("45 sweep to the end", x.sweep(100), 0);
        Check.same("45 sweep to the begin", x.sweep(-100), 10);
        Check.same("45 sweep ahead of the begin", x.sweep(-101), 0);
        Check.same("50 house, ten lie still", x.house(2), 10);
    }

    /** Like heights: the lower number lies below, in whatever order they were laid. */
    private static void alike() {
        Gapline x = new Gapline();
        for (int bar : new int[] {5, 9, 0, 3, 7}) {
            x.bar(bar, 0, 1, 4);
        }
        Check.same("46 open, alike", x.open(), "0 3 5 7 9");
        Check.same("48 neighbours, alike, lowest", x.neighbours(0), "- 3");
        Check.same("48 neighbours, alike", x.neighbours(5), "3 7");
        Check.same("48 neighbours, alike, highest", x.neighbours(9), "7 -");
        x.bar(8, 0, 1, 3);
        x.bar(1, 0, 1, 5);
        Check.same("46 open, alike between others", x.open(), "8 0 3 5 7 9 1");
        Check.same("48 neighbours, the first of like ones", x.neighbours(0), "8 3");
        Check.same("48 neighbours, the last of like ones", x.neighbours(9), "7 1");
        Check.same("48 neighbours, below like ones", x.neighbours(8), "- 0");
        Check.same("48 neighbours, above like ones", x.neighbours(1), "9 -");
    }

    private static void besideAlike() {
        Gapline x = new Gapline();
        for (int bar : new int[] {6, 2, 4}) {
            x.bar(bar, 0, 1, 10);
            Check.same("47 beside at the only height, below", x.beside(10, true), -1);
            Check.same("47 beside at the only height, above", x.beside(10, false), -1);
        }
        Check.same("47 beside, the highest of like ones", x.beside(11, true), 6);
        Check.same("47 beside, the lowest of like ones", x.beside(9, false), 2);
        x.bar(9, 0, 1, 9);
        x.bar(0, 0, 1, 11);
        Check.same("47 beside at like ones, below", x.beside(10, true), 9);
        Check.same("47 beside at like ones, above", x.beside(10, false), 0);
        x.bar(1, 0, 1, 9);
        x.bar(7, 0, 1, 11);
        Check.same("47 beside, two below", x.beside(10, true), 9);
        Check.same("47 beside, two above", x.beside(10, false), 0);
        Check.same("47 beside changes nothing", x.open(), "1 9 2 4 6 0 7");
    }

    /** Each height from -2 to 12 beside open bars at 0, 5, 5 and 10, and one at 6 that is not open. */
    private static void besideEach() {
        Gapline x = new Gapline();
        x.bar(4, 0, 1, 0);
        x.bar(8, 0, 1, 5);
        x.bar(3, 0, 1, 5);
        x.bar(1, 0, 1, 10);
        x.bar(0, 1, 2, 6);
        for (int height = -2; height <= 12; height++) {
            int below = height > 10 ? 1 : height > 5 ? 8 : height > 0 ? 4 : -1;
            int above = height < 0 ? 4 : height < 5 ? 3 : height < 10 ? 1 : -1;
            Check.same("47 beside below " + height, x.beside(height, true), below);
            Check.same("47 beside above " + height, x.beside(height, false), above);
        }
    }

    private static void edges() {
        for (int from = -3; from <= 3; from++) {
            for (int to = from + 1; to <= 4; to++) {
                Gapline x = new Gapline();
                for (int place = -4; place <= 5; place++) {
                    int due = from <= place && place < to ? 1 : 0;
                    String at = " " + from + " to " + to + " at " + place;
                    Check.same("45 sweep before it lies" + at, x.sweep(place), 0);
                    Check.same("43 bar" + at, x.bar(6, from, to, 0), due);
                    Check.same("45 sweep" + at, x.sweep(place), due);
                    Check.same("49 ofBar open" + at, x.ofBar(6, 3), "" + due);
                    Check.same("50 house open" + at, x.house(3), due);
                    Check.same("46 open" + at, x.open(), due == 1 ? "6" : "");
                    Check.same("48 neighbours" + at, x.neighbours(6), due == 1 ? "- -" : "");
                    Check.same("47 beside" + at, x.beside(1, true), due == 1 ? 6 : -1);
                    Check.same("44 lift" + at, x.lift(6), 1);
                }
            }
        }
    }

    private static void onAndBack() {
        Gapline x = new Gapline();
        x.bar(0, 0, 5, 1);
        x.bar(1, 3, 8, 0);
        x.bar(2, 5, 6, 2);
        String[] due = {"", "0", "0", "0", "1 0", "1 0", "1 2", "1", "1", ""};
        for (int round = 0; round < 3; round++) {
            for (int place = -1; place <= 8; place++) {
                x.sweep(place);
                Check.same("46 open on the way on, at " + place, x.open(), due[place + 1]);
            }
            for (int place = 8; place >= -1; place--) {
                x.sweep(place);
                Check.same("46 open on the way back, at " + place, x.open(), due[place + 1]);
            }
        }
        Check.same("45 sweep far", x.sweep(Check.GREATEST), 0);
        Check.same("45 sweep from far into some", x.sweep(4), 2);
        Check.same("45 sweep to the same place", x.sweep(4), 2);
    }

    private static void inPlaceOfItself() {
        Gapline x = new Gapline();
        x.bar(2, 0, 5, 1);
        x.bar(3, 0, 5, 2);
        Check.same("43 bar, higher", x.bar(2, 0, 5, 3), 1);
        Check.same("46 open, higher", x.open(), "3 2");
        Check.same("43 bar, alike", x.bar(2, 0, 5, 2), 1);
        Check.same("46 open, alike", x.open(), "2 3");
        Check.same("43 bar, elsewhere", x.bar(2, 7, 9, 2), 0);
        Check.same("46 open, elsewhere", x.open(), "3");
        Check.same("48 neighbours, elsewhere", x.neighbours(3), "- -");
        Check.same("50 house, lie", x.house(2), 2);
        Check.same("49 ofBar begins", x.ofBar(2, 0), "7");
        Check.same("49 ofBar ends", x.ofBar(2, 1), "9");
        Check.same("49 ofBar height", x.ofBar(2, 2), "2");
        Check.same("45 sweep there", x.sweep(7), 1);
        Check.same("46 open there", x.open(), "2");
    }

    private static void lifted() {
        Gapline x = Rich.ten();
        for (int bar = 0; bar < 10; bar++) {
            Check.same("44 lift " + bar, x.lift(bar), 1);
            Check.same("44 lift again " + bar, x.lift(bar), 0);
            Check.same("50 house, lie then", x.house(2), 9 - bar);
            Check.same("50 house, open then", x.house(3), 9 - bar);
            Check.same("48 neighbours, lifted", x.neighbours(bar), "");
            for (int what = 0; what <= 3; what++) {
                Check.same("49 ofBar, lifted", x.ofBar(bar, what), "");
            }
        }
        Check.same("46 open, all lifted", x.open(), "");
        Check.same("47 beside, all lifted", x.beside(5, true), -1);
        Check.same("43 bar, laid again", x.bar(4, 0, 1, 9), 1);
        Check.same("49 ofBar, laid again", x.ofBar(4, 2), "9");
        Check.same("46 open, laid again", x.open(), "4");
    }

    /** Bars that lie, but are not open, are nobody's neighbours. */
    private static void notOpen() {
        Gapline x = new Gapline();
        x.bar(0, 1, 9, 4);
        x.bar(1, 0, 9, 5);
        x.bar(2, -9, 0, 6);
        x.bar(3, 0, 9, 7);
        x.bar(4, 1, 9, 8);
        Check.same("48 neighbours, others ahead and behind", x.neighbours(1), "- 3");
        Check.same("48 neighbours, the other way", x.neighbours(3), "1 -");
        Check.same("48 neighbours, ahead of the sweep", x.neighbours(0), "");
        Check.same("48 neighbours, behind the sweep", x.neighbours(2), "");
        Check.same("47 beside, ahead of the sweep", x.beside(5, true), -1);
        Check.same("47 beside, behind the sweep", x.beside(5, false), 3);
        Check.same("49 ofBar, told though not open", x.ofBar(2, 1), "0");
        Check.same("50 house, lie", x.house(2), 5);
        Check.same("50 house, open", x.house(3), 2);
        x.sweep(1);
        Check.same("48 neighbours, one place on", x.neighbours(1), "0 3");
        Check.same("48 neighbours, one place on, the highest", x.neighbours(4), "3 -");
    }

    /** Each two bars, the one with the less number and then the other one at the greater height. */
    private static void twoAlone() {
        for (int one = 0; one < 10; one++) {
            for (int two = one + 1; two < 10; two++) {
                Gapline x = new Gapline();
                x.bar(one, 0, 1, 0);
                x.bar(two, 0, 1, 0);
                Check.same("46 open, two alike", x.open(), one + " " + two);
                x.bar(one, 0, 1, 1);
                Check.same("46 open, two, the first higher", x.open(), two + " " + one);
                Check.same("48 neighbours, two, lower", x.neighbours(two), "- " + one);
                Check.same("48 neighbours, two, higher", x.neighbours(one), two + " -");
                Check.same("47 beside, two, below", x.beside(1, true), two);
                Check.same("47 beside, two, above", x.beside(0, false), one);
            }
        }
    }
}
