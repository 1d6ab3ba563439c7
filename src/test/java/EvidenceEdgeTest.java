/** The edges that the document names for levels that were told (part IV, promises 27 to 34). */
public final class EvidenceEdgeTest {
    private static final Check CHECK = new Check("EvidenceEdgeTest");
    private static final String THREE = "cell a 1 100;cell b 1 0;cell c 1 0;pass a b 5;pass a c 5;pass b c 1;rain 0 4;";

    public static void main(String[] args) {
        tellEdges();
        tellTwenty();
        tellOfOneDay();
        forgetAll();
        noSuchK();
        noSuchOnes();
        offByNumber();
        offAtTheBegin();
        offOnTheLastDay();
        knownByK();
        asItWasTold();
        spanEdges();
        spanAllElseAsTold();
        rainSpanEdges();
        rainSpanOfEachNumber();
        pairsEdges();
        pairsInOrder();
        testAllAlike();
        testParts();
        testOfAlikeOnes();
        testDays();
        hiddenNotNeeded();
        hiddenTakesAtMost();
        hiddenDays();
        hiddenLeast();
        hiddenOfAlikeOnes();
        hiddenNoMoreThanTheWater();
        hiddenBehindAllVillages();
        hiddenNone();
        hiddenByEachK();
        hiddenForgets();
        oneCallLeavesNothingForTheNext();
        nothingHappens();
        CHECK.end();
    }

    private static void due(String call, long got, long want) {
        CHECK.due(call, got, want);
    }

    private static void due(String what, String got, String want) {
        CHECK.due(what + ": " + got + " / " + want, got.equals(want), true);
    }

    // ---- promises 27 to 29

    /** "a day 0 .. 199, a CELL, a LEVEL 0 .. 9999"; "NONE, and nothing happens: .. no such ones" */
    private static void tellEdges() {
        WellVillages x = Check.over(THREE);
        String was = State.withTape(x);
        for (int day : new int[] {-1, 200, 201, Integer.MIN_VALUE, Integer.MAX_VALUE}) {
            due("tell of day " + day, x.tell(day, 0, 5), -1);
        }
        for (int cell : new int[] {-1, 3, 12, Integer.MIN_VALUE, Integer.MAX_VALUE}) {
            due("tell of cell " + cell, x.tell(0, cell, 5), -1);
        }
        for (int level : new int[] {-1, 10000, Integer.MIN_VALUE, Integer.MAX_VALUE}) {
            due("tell of level " + level, x.tell(0, 0, level), -1);
        }
        due("nothing happened", State.withTape(x), was);
        due("day 0, cell 0, level 0", x.tell(0, 0, 0), 0);
        due("day 199", x.tell(199, 0, 0), 1);
        due("cell 2", x.tell(0, 2, 0), 2);
        due("level 9999", x.tell(0, 0, 9999), 3);
        due("count(6)", x.count(6), 4);
    }

    /** "20 at most, numbered from 0 on" */
    private static void tellTwenty() {
        WellVillages x = Check.over(THREE);
        for (int i = 0; i < 20; i++) {
            due("the number", x.tell(i == 19 ? 1 : 0, 0, i == 19 ? 7 : 100), i);
        }
        String was = State.withTape(x);
        due("a 21st", x.tell(0, 0, 100), -1);
        due("a 21st", x.tell(1, 1, 9), -1);
        due("nothing happened", State.withTape(x), was);
        due("all 20 are known", x.off(20), 19);
        due("19 are so", x.off(19), -2);
        due("no 21st is known", x.off(21), -1);
        due("forget()", x.forget(), 20);
        due("there is room again", x.tell(0, 0, 100), 0);
    }

    private static void tellOfOneDay() {
        WellVillages x = Check.over(THREE);
        x.tell(0, 0, 100);
        x.tell(0, 0, 100);
        due("the same twice", x.off(2), -2);
        x.tell(0, 0, 101);
        due("against itself", x.off(3), 2);
        due("fits none", x.span(0, 3), -2);
    }

    /** "All that was TOLD is forgotten: how many there were." */
    private static void forgetAll() {
        WellVillages x = Check.over(THREE);
        due("none", x.forget(), 0);
        x.tell(0, 0, 1);
        x.tell(0, 0, 2);
        x.tell(0, 0, 3);
        x.run(4);
        due("three", x.forget(), 3);
        due("none again", x.forget(), 0);
        due("count(6)", x.count(6), 0);
        due("the days stay", x.count(4), 4);
        due("nothing is known", x.off(0), -2);
        due("no k of 1", x.off(1), -1);
        due("the number is 0 again", x.tell(0, 0, 100), 0);
        due("the old ones are gone", x.off(1), -2);
    }

    /** "NONE: no such k" */
    private static void noSuchK() {
        WellVillages x = Check.over(THREE);
        x.tell(1, 0, 90);
        x.tell(1, 1, 5);
        for (int k : new int[] {-1, 3, 4, 20, 21, Integer.MIN_VALUE, Integer.MAX_VALUE}) {
            due("off " + k, x.off(k), -1);
            due("span " + k, x.span(0, k), -1);
            due("rainSpan " + k, x.rainSpan(0, k), -1);
            due("pairs " + k, x.pairs(0, 1, k, 0), -1);
            due("test " + k, x.test(0, 1, k, 0), -1);
            due("hidden " + k, x.hidden(k, 0), -1);
        }
        for (int k = 0; k <= 2; k++) {
            due("off " + k, x.off(k), -2);
            due("span " + k, x.span(0, k) == -1 ? 1 : 0, 0);
        }
    }

    /** "no such ones", "one and the same" */
    private static void noSuchOnes() {
        WellVillages x = Check.over(THREE);
        x.tell(1, 0, 90);
        String was = State.withTape(x);
        for (int bad : new int[] {-1, 3, 4, 20, Integer.MIN_VALUE, Integer.MAX_VALUE}) {
            due("span " + bad, x.span(bad, 1), -1);
            due("rainSpan " + bad, x.rainSpan(bad, 1), -1);
            due("pairs " + bad, x.pairs(bad, 1, 1, 0), -1);
            due("pairs with " + bad, x.pairs(1, bad, 1, 0), -1);
            due("pairs of it with itself " + bad, x.pairs(bad, bad, 1, 0), -1);
            due("test " + bad, x.test(bad, 1, 1, 0), -1);
            due("test with " + bad, x.test(1, bad, 1, 0), -1);
        }
        due("rainSpan(2, 1)", x.rainSpan(2, 1), -1);
        for (int p = 0; p <= 2; p++) {
            due("pairs of one and the same", x.pairs(p, p, 1, 0), -1);
            due("pairs of one and the same", x.pairs(p, p, 1, 1), -1);
            due("test of one and the same", x.test(p, p, 1, 1), -1);
        }
        for (int what : new int[] {-1, 2, 3, Integer.MIN_VALUE, Integer.MAX_VALUE}) {
            due("pairs what " + what, x.pairs(0, 1, 1, what), -1);
        }
        for (int what : new int[] {-1, 4, 5, Integer.MIN_VALUE, Integer.MAX_VALUE}) {
            due("hidden what " + what, x.hidden(1, what), -1);
        }
        for (int day : new int[] {-1, 200, 201, Integer.MIN_VALUE, Integer.MAX_VALUE}) {
            due("test on day " + day, x.test(0, 1, 1, day), -1);
        }
        due("nothing happened", State.withTape(x), was);
        due("no passes", Check.over("cell a 1 1;").span(0, 0), -1);
        due("no rain", Check.over("cell a 1 1;rain;").rainSpan(0, 0), -1);
        due("one pass alone", Check.over("cell a 1 1;cell b 1 1;pass a b 1;").pairs(0, 1, 0, 0), -1);
    }

    /** "The first TOLD one .. that is not so": by its number, whatever its day. */
    private static void offByNumber() {
        WellVillages x = Check.over("cell a 1 0;rain 1;"); // its level is the day's number
        x.tell(9, 0, 9);
        x.tell(2, 0, 3);
        due("wrong on an early day, so later", x.off(2), 1);
        x.tell(1, 0, 5);
        x.tell(8, 0, 8);
        due("the first number, not the first day", x.off(4), 1);
        due("known by 1", x.off(1), -2);
        x.forget();
        x.tell(9, 0, 8);
        x.tell(1, 0, 0);
        due("wrong on a late day", x.off(2), 0);
    }

    /** "that it had at the begin of that day" */
    private static void offAtTheBegin() {
        WellVillages x = Check.over("cell a 2 9;rain 40;village v a 0=7;");
        x.tell(0, 0, 4);
        due("day 0: as told, ahead of rain", x.off(1), -2);
        x.tell(1, 0, 21);
        due("day 1: 9 and 40 less 7 by 2", x.off(2), -2);
        x.tell(0, 0, 5);
        due("day 0", x.off(3), 2);
    }

    private static void offOnTheLastDay() {
        WellVillages x = Check.over("cell a 1 0;rain 1;");
        x.tell(199, 0, 199);
        due("day 199", x.off(1), -2);
        x.tell(199, 0, 198);
        x.tell(199, 0, 200);
        due("day 199", x.off(2), 1);
        due("rain that would make 198", x.rainSpan(0, 2), -2);
        x = Check.over("cell a 1 0;rain 99;");
        x.tell(199, 0, 9999);
        due("a level above 9999 can't be told", x.off(1), 0);
    }

    /** "KNOWN by k: the first k": what was told later does not count. */
    private static void knownByK() {
        WellVillages x = Check.over("cell a 1 100;cell b 1 0;pass a b 10;pass b a 1;rain 0 0;");
        int[][] told = {{1, 1, 11}, {2, 0, 9999}};
        for (int[] t : told) {
            x.tell(t[0], t[1], t[2]);
        }
        int[] off = {-2, -2, 1};
        int[] span = {10, 1010, -2};
        int[] rain = {99, 0, -2};
        int[] pairs = {121, 10, 0};
        int[] first = {0, 110, -2};
        int[] hidden = {-3, -3, -2};
        for (int k = 2; k >= 0; k--) {
            due("off " + k, x.off(k), off[k]);
            due("span " + k, x.span(0, k), span[k]);
            due("rainSpan " + k, x.rainSpan(0, k), rain[k]);
            due("pairs " + k, x.pairs(0, 1, k, 0), pairs[k]);
            due("first pair " + k, x.pairs(0, 1, k, 1), first[k]);
            due("test " + k, x.test(0, 1, k, 0), k == 2 ? -2 : 0);
            due("hidden " + k, x.hidden(k, 0), hidden[k]);
        }
    }

    /** "They are of the days from the begin of the text (as it was told)" */
    private static void asItWasTold() {
        WellVillages x = Check.over("cell a 1 100;cell b 1 0;pass a b 10;rain 0 3;village v b 9=took+dry;");
        x.run(30);
        x.pour(0, 7);
        x.pour(1, 9999);
        x.hold(0);
        x.restore(0);
        x.tell(0, 0, 100);
        x.tell(1, 1, 10);
        due("off", x.off(2), -2);
        due("span", x.span(0, 2), 1010);
        due("rainSpan", x.rainSpan(0, 1), 99);
        due("hidden", x.hidden(2, 0), -3);
        due("the days stay", x.count(4), 30);
        due("the water stays", x.cell(1, 0), 9999);
    }

    // ---- promises 30 and 31

    /** "the least and the greatest WIDTH of it that FITS" of "WIDTHS 0 .. 10 (0: sealed)" */
    private static void spanEdges() {
        for (int width = 0; width <= 10; width++) {
            WellVillages x = Check.over("cell a 1 100;cell b 1 0;pass a b 4;");
            x.tell(1, 1, width);
            due("span of " + width, x.span(0, 1), 101 * width);
        }
        WellVillages x = Check.over("cell a 1 100;cell b 1 0;pass a b 4;");
        x.tell(1, 1, 11);
        due("wider than 10", x.span(0, 1), -2);
        due("nothing is known", x.span(0, 0), 10);
        x = Check.over("cell a 1 10;cell b 1 0;pass a b 4;");
        x.tell(1, 1, 0);
        due("0 to 9", x.span(0, 1), 9);
        x = Check.over("cell a 1 11;cell b 1 10;pass a b 4;");
        x.tell(199, 1, 10);
        due("0 to 10", x.span(0, 1), 10);
    }

    private static void spanAllElseAsTold() {
        WellVillages x = Check.over("cell a 1 100;cell b 1 0;pass a b 4;pass b a 3;");
        x.tell(1, 1, 7);
        due("the first, with 3 by the second", x.span(0, 1), 404);
        due("the second, with 4 by the first", x.span(1, 1), 303);
        due("the first again", x.span(0, 1), 404);
    }

    /** "SPAN of a number of the RAIN: likewise, of 0 .. 99" */
    private static void rainSpanEdges() {
        for (int rain : new int[] {0, 1, 50, 98, 99}) {
            WellVillages x = Check.over("cell a 1 0;rain 7;");
            x.tell(1, 0, rain);
            due("rainSpan of " + rain, x.rainSpan(0, 1), 101 * rain);
        }
        WellVillages x = Check.over("cell a 1 0;rain 7;");
        x.tell(1, 0, 100);
        due("more than 99", x.rainSpan(0, 1), -2);
        due("nothing is known", x.rainSpan(0, 0), 99);
        x = Check.over("cell a 9 0;rain 7;");
        x.tell(1, 0, 0);
        due("0 to 8", x.rainSpan(0, 1), 8);
        x.forget();
        x.tell(1, 0, 11);
        due("99 alone", x.rainSpan(0, 1), 9999);
        x.forget();
        x.tell(1, 0, 10);
        due("90 to 98", x.rainSpan(0, 1), 9098);
    }

    /** "the i-th number of the RAIN": from 0 on, as they stand in the last rain. */
    private static void rainSpanOfEachNumber() {
        WellVillages x = Check.over("cell a 1 0;rain 50;rain 1 2 3 4 5 6 7 8 9 10 11 12 13 14;village v a 0=today;");
        for (int i = 0; i < 14; i++) {
            due("nothing is known of " + i, x.rainSpan(i, 0), 99);
        }
        due("no 15th", x.rainSpan(14, 0), -1);
        x = Check.over("cell a 1 0;rain 1 2 3 4 5 6 7 8 9 10 11 12 13 14;");
        x.tell(14, 0, 110); // 105 and 5 more
        for (int i = 0; i < 14; i++) {
            due("five more of " + i, x.rainSpan(i, 1), 101 * (i + 6));
        }
        x.tell(15, 0, 112); // the first comes again, with 1 more than the 5 more
        due("the first can't be", x.rainSpan(0, 2), -2);
        x.forget();
        x.tell(15, 0, 116);
        due("the first comes twice", x.rainSpan(0, 1), 101 * 6);
        x = Check.over("cell a 1 0;rain 1 2;village v a 0=today;");
        x.tell(9, 0, 0);
        due("the law's today is of that rain too", x.rainSpan(1, 1), 99);
    }

    // ---- promises 32 and 33

    /** "how many pairs of WIDTHS FIT" */
    private static void pairsEdges() {
        WellVillages x = Check.over(THREE);
        due("all", x.pairs(0, 1, 0, 0), 121);
        due("the first of all", x.pairs(0, 1, 0, 1), 0);
        x.tell(1, 0, 100);
        due("both sealed", x.pairs(0, 1, 1, 0), 1);
        due("both sealed", x.pairs(0, 1, 1, 1), 0);
        x.forget();
        x.tell(1, 0, 80);
        due("both as wide as can be", x.pairs(0, 1, 1, 0), 1);
        due("both as wide as can be", x.pairs(0, 1, 1, 1), 1010);
        x.forget();
        x.tell(1, 0, 79);
        due("none", x.pairs(0, 1, 1, 0), 0);
        due("no first one", x.pairs(0, 1, 1, 1), -2);
    }

    /** "the first of them, by the lesser WIDTH of the one, then of the other" */
    private static void pairsInOrder() {
        WellVillages x = Check.over(THREE);
        x.tell(1, 0, 88);
        due("nine make twelve", x.pairs(0, 1, 1, 0), 9);
        due("the first", x.pairs(0, 1, 1, 1), 210);
        due("the other way round", x.pairs(1, 0, 1, 1), 210);
        x.tell(1, 1, 7);
        due("7 and 5", x.pairs(0, 1, 2, 1), 705);
        due("5 and 7", x.pairs(1, 0, 2, 1), 507);
        due("the second is 5 as told, the third of any width", x.pairs(0, 2, 2, 0), 11);
        due("the second can't be another one", x.pairs(1, 2, 2, 0), 0);
        x.forget();
        x.tell(1, 1, 7);
        due("the third has any width", x.pairs(0, 2, 1, 0), 11);
        due("the first of them", x.pairs(0, 2, 1, 1), 700);
        due("the first of them", x.pairs(2, 0, 1, 1), 7);
    }

    /** "of alike ones the first": on day 0 all pairs have one level in each cell. */
    private static void testAllAlike() {
        WellVillages x = Check.over(THREE);
        due("all 121 alike", x.test(0, 1, 0, 0), 0);
        x = Check.over("cell z 1 5;" + THREE);
        due("a cell apart parts nothing", x.test(0, 1, 0, 1), 1);
        due("but on day 0", x.test(0, 1, 0, 0), 0);
        due("passes that bring nothing", x.test(2, 1, 0, 0), 0);
    }

    /** "with which the greatest number of pairs that have one LEVEL there is least" */
    private static void testParts() {
        // of 121 pairs a has at most 11 alike (one sum of widths), b and c too (one width each)
        WellVillages x = Check.over("cell a 1 100;cell b 1 0;cell c 1 0;pass a b 5;pass a c 5;");
        due("a", x.test(0, 1, 0, 1), 0);
        // 0 to 9 of b's room are one level, two widths of c's
        x = Check.over("cell a 9 900;cell b 9 0;cell c 2 0;pass a b 5;pass a c 5;");
        due("c", x.test(0, 1, 0, 1), 2);
        x = Check.over("cell a 9 900;cell b 1 0;cell c 2 0;pass a b 5;pass a c 5;");
        due("b", x.test(0, 1, 0, 1), 1);
        // the last of all pairs count as the first do: only wide ones differ
        x = Check.over("cell a 9 98;cell b 1 0;cell c 1 0;pass a b 5;pass c b 5;");
        due("b: 110 of 121 are alike, in a and c all", x.test(0, 1, 0, 1), 1);
    }

    private static void testOfAlikeOnes() {
        WellVillages x = Check.over("cell z 1 0;cell a 1 100;cell b 1 0;cell c 1 0;pass a b 5;pass a c 5;");
        x.tell(1, 1, 90);
        due("b, not c", x.test(0, 1, 1, 1), 2);
        due("b, not c", x.test(1, 0, 1, 1), 2);
        x.forget();
        x.tell(1, 1, 100);
        due("one pair alone: the first cell", x.test(0, 1, 1, 1), 0);
        x.tell(1, 1, 99);
        due("no pair", x.test(0, 1, 2, 1), -2);
    }

    /** "on a day (0 .. 199)", which may be ahead of what is known or behind it */
    private static void testDays() {
        WellVillages x = Check.over("cell a 1 100;cell b 1 0;cell c 1 0;pass a b 5;pass a c 5;");
        x.tell(5, 1, 0);
        for (int day : new int[] {0, 1, 5, 6, 199}) {
            due("b is empty in all that fit, day " + day, x.test(0, 1, 1, day), 0);
        }
        due("11 fit", x.pairs(0, 1, 1, 0), 11);
        x.tell(199, 2, 9999);
        due("none fits, day 0", x.test(0, 1, 2, 0), -2);
        due("none fits, day 199", x.test(0, 1, 2, 199), -2);
    }

    // ---- promise 34

    private static void pump(String what, WellVillages x, int... due) {
        int k = x.count(6);
        for (int i = 0; i < 4; i++) {
            due(what + ", " + i, x.hidden(k, i), due.length == 1 ? due[0] : due[i]);
        }
    }

    /** One told level after another, each three ints, on an object that has forgotten what it was told. */
    private static void told(WellVillages x, int... all) {
        x.forget();
        for (int i = 0; i + 2 < all.length; i += 3) {
            x.tell(all[i], all[i + 1], all[i + 2]);
        }
    }

    /** "-3: none is needed (all is so without)" */
    private static void hiddenNotNeeded() {
        WellVillages x = Check.over("cell a 1 200;cell b 1 200;");
        pump("nothing is told", x, -3);
        told(x, 0, 0, 200, 199, 1, 200);
        pump("all is so", x, -3);
        due("known by none", x.hidden(0, 3), -3);
        due("no cells", new WellVillages().hidden(0, 2), -3);
        told(x, 1, 0, 195);
        due("known by none", x.hidden(0, 0), -3);
        pump("one is needed", x, 0, 5, 0, 0);
        due("known by none", x.hidden(0, 0), -3);
    }

    /** "x (1 .. 9) is taken" */
    private static void hiddenTakesAtMost() {
        for (int taken = 1; taken <= 11; taken++) {
            WellVillages x = Check.over("cell a 1 200;");
            told(x, 1, 0, 200 - taken);
            if (taken <= 9) {
                pump("taken " + taken, x, 0, taken, 0, 0);
            } else {
                pump("taken " + taken, x, -2);
            }
            told(x, 1, 0, 200 + taken);
            pump("one that brings water", x, -2);
        }
        WellVillages x = Check.over("cell a 1 200;");
        told(x, 14, 0, 200 - 126);
        pump("9 on 14 days", x, 0, 9, 0, 13);
        told(x, 14, 0, 200 - 127);
        pump("127", x, -2);
        told(x, 14, 0, 200 - 125);
        pump("125 is no x times days", x, -2);
    }

    /** "on days a to b (0 <= a <= b <= 13)" */
    private static void hiddenDays() {
        WellVillages x = Check.over("cell a 1 200;");
        for (int day = 0; day <= 13; day++) {
            told(x, day, 0, 200, day + 1, 0, 195, 199, 0, 195);
            pump("on day " + day + " alone", x, 0, 5, day, day);
        }
        told(x, 14, 0, 200, 15, 0, 195);
        pump("on day 14 alone", x, -2);
        told(x, 13, 0, 200, 14, 0, 195, 15, 0, 190);
        pump("on days 13 and 14", x, -2);
        told(x, 13, 0, 200, 14, 0, 195, 15, 0, 195);
        pump("on day 13", x, 0, 5, 13, 13);
        told(x, 1, 0, 199, 14, 0, 186, 15, 0, 186);
        pump("on all days", x, 0, 1, 0, 13);
        told(x, 1, 0, 199, 15, 0, 185);
        pump("on 15 days", x, -2);
        told(x, 0, 0, 199);
        pump("ahead of day 0", x, -2);
        told(x, 1, 0, 200, 2, 0, 197, 3, 0, 197, 4, 0, 194);
        pump("with a gap", x, -2);
    }

    /** "that with the least x * (b - a + 1)" */
    private static void hiddenLeast() {
        // c gets 20; one less if the level of a, or that of b, is below 100
        WellVillages x = Check.over("cell a 9 900;cell b 1 100;cell c 1 0;pass a c 10;pass b c 10;");
        told(x, 1, 2, 19);
        pump("1 of the level of a", x, 0, 1, 0, 0);
        told(x, 1, 2, 19, 1, 1, 89);
        pump("but b lost 2", x, 1, 2, 0, 0);
        x = Check.over("cell a 9 908;cell b 1 100;cell c 1 0;pass a c 10;pass b c 10;");
        told(x, 1, 2, 19);
        pump("9 of a or 1 of b: the least, though of a later cell", x, 1, 1, 0, 0);
        x = Check.over("cell a 1 200;");
        told(x, 14, 0, 186);
        pump("14 days of 1 are no less than 2 of 7", x, 0, 7, 0, 1);
        told(x, 2, 0, 200, 14, 0, 188);
        pump("12 as 6 and 6 from day 2 on", x, 0, 6, 2, 3);
    }

    /** "of alike ones by the least CELL, a, b" */
    private static void hiddenOfAlikeOnes() {
        WellVillages x = Check.over("cell z 1 0;cell a 1 100;cell b 1 100;cell c 1 0;pass b c 10;pass a c 10;");
        told(x, 1, 3, 19);
        pump("the least cell", x, 1, 1, 0, 0);
        told(x, 1, 3, 19, 1, 2, 89);
        pump("but the other one has lost 2", x, 2, 2, 0, 0);
        x = Check.over("cell a 1 200;");
        told(x, 9, 0, 194);
        pump("the least a, then the least b", x, 0, 6, 0, 0);
        told(x, 1, 0, 200, 9, 0, 194);
        pump("the least a that is left", x, 0, 6, 1, 1);
        told(x, 1, 0, 197, 9, 0, 194);
        pump("the least b that is left", x, 0, 3, 0, 1);
        told(x, 9, 0, 182);
        pump("18 as two of 9", x, 0, 9, 0, 1);
        told(x, 9, 0, 184);
        pump("16 as two of 8", x, 0, 8, 0, 1);
        told(x, 9, 0, 179);
        pump("21 as three of 7", x, 0, 7, 0, 2);
    }

    /** "but no more than its WATER": then a lesser x does the same. */
    private static void hiddenNoMoreThanTheWater() {
        WellVillages x = Check.over("cell a 1 4;");
        told(x, 1, 0, 0);
        pump("4 of 4", x, 0, 4, 0, 0);
        told(x, 14, 0, 0);
        pump("4 of 4, once", x, 0, 4, 0, 0);
        x = Check.over("cell a 1 1;rain 0 9 2;");
        told(x, 1, 0, 0, 2, 0, 0, 3, 0, 0);
        pump("1, 9 and 2", x, 0, 9, 0, 2);
        told(x, 1, 0, 0, 2, 0, 1, 3, 0, 0);
        pump("1, 8 and 3", x, 0, 8, 0, 2);
        x = Check.over("cell a 1 0;rain 0 9;");
        told(x, 2, 0, 0);
        pump("nothing is there on day 0", x, 0, 9, 1, 1);
    }

    /** "behind all VILLAGES" */
    private static void hiddenBehindAllVillages() {
        WellVillages x = Check.over("cell a 1 20;cell b 1 0;pass a b 10;village v a 0=8;village w a 0=day*9;rain 0 1;");
        told(x, 1, 0, 9, 1, 1, 1); // 12 are left, of them 2 are pumped; 1 flows
        pump("behind villages, ahead of flows", x, 0, 2, 0, 0);
        x = Check.over("cell a 1 10;village v a 10=10;rain 0 7;");
        told(x, 1, 0, 0);
        pump("villages leave nothing, so none is needed", x, -3);
        told(x, 1, 0, 0, 2, 0, 1);
        pump("they take all again", x, -2);
    }

    /** "-2: none explains all" */
    private static void hiddenNone() {
        WellVillages x = Check.over("cell a 1 100;cell b 1 100;");
        told(x, 1, 0, 99, 1, 1, 99);
        pump("two cells, one pump", x, -2);
        told(x, 199, 0, 101);
        pump("more than without", x, -2);
        told(x, 1, 0, 99, 2, 0, 97);
        pump("1, then 2", x, -2);
        told(x, 20, 1, 99, 30, 1, 98);
        pump("too late", x, -2);
        due("the first alone", x.hidden(1, 0), 1);
    }

    /** "KNOWN by k: the first k", whichever k was asked of ahead, and whatever is told later */
    private static void hiddenByEachK() {
        int[][] dues = {{-3}, {-3}, {0, 5, 1, 1}, {0, 5, 1, 2}, {0, 5, 1, 2}, {-2}};
        WellVillages x = Check.over("cell a 1 200;");
        int[] levels = {1, 200, 2, 195, 3, 190, 4, 190, 20, 191};
        for (int k = 0; k < dues.length; k++) {
            for (int first = 0; first <= k; first++) {
                for (int second = k; second >= 0; second--) {
                    int[] due = dues[second];
                    x.hidden(first, 0);
                    for (int i = 0; i < 4; i++) {
                        due("hidden(" + second + ", " + i + ") behind " + first, x.hidden(second, i),
                            due.length == 1 ? due[0] : due[i]);
                    }
                }
            }
            if (k < 5) {
                due("hidden by more than are told", x.hidden(k + 1, 0), -1);
                due("tell", x.tell(levels[2 * k], 0, levels[2 * k + 1]), k);
            }
        }
    }

    /** "All that was TOLD is forgotten", and with another text "nothing is TOLD" */
    private static void hiddenForgets() {
        WellVillages x = Check.over("cell a 1 200;");
        told(x, 1, 0, 195);
        pump("5", x, 0, 5, 0, 0);
        told(x, 1, 0, 197);
        pump("3", x, 0, 3, 0, 0);
        told(x, 1, 0, 200);
        pump("none is needed", x, -3);
        told(x, 1, 0, 201);
        pump("none explains", x, -2);
        Check.put(x, "cell b 1 202;");
        due("read", x.read(), 0);
        due("nothing is told", x.hidden(1, 0), -1);
        told(x, 1, 0, 201);
        pump("1 of 202", x, 0, 1, 0, 0);
        Check.put(x, "cell b 1 202;cell b");
        due("read", x.read(), 1);
        pump("a text with a fault changes nothing", x, 0, 1, 0, 0);
    }

    // ---- one call and the next

    /** What a call tried is gone when the next one asks. */
    private static void oneCallLeavesNothingForTheNext() {
        WellVillages x = Check.over(THREE);
        told(x, 1, 0, 88, 3, 1, 15, 6, 2, 9);
        int[] alone = new int[12];
        for (int i = 0; i < alone.length; i++) {
            WellVillages y = Check.over(THREE);
            told(y, 1, 0, 88, 3, 1, 15, 6, 2, 9);
            alone[i] = ask(y, i);
        }
        for (int first = 0; first < alone.length; first++) {
            for (int second = 0; second < alone.length; second++) {
                due("ask " + first, ask(x, first), alone[first]);
                due("ask " + second + " behind " + first, ask(x, second), alone[second]);
            }
        }
    }

    private static int ask(WellVillages x, int which) {
        switch (which) {
            case 0: return x.off(3);
            case 1: return x.span(0, 1);
            case 2: return x.span(2, 0);
            case 3: return x.rainSpan(1, 0);
            case 4: return x.rainSpan(0, 1);
            case 5: return x.pairs(0, 1, 1, 0);
            case 6: return x.pairs(0, 2, 2, 1);
            case 7: return x.pairs(2, 1, 0, 0);
            case 8: return x.test(0, 1, 1, 4);
            case 9: return x.test(0, 2, 0, 9);
            case 10: return x.hidden(1, 1);
            default: return x.hidden(3, 0);
        }
    }

    private static void nothingHappens() {
        WellVillages x = Check.over(THREE + "village v a 9=seen/9+dry;");
        x.run(9);
        x.hold(2);
        told(x, 1, 0, 88, 3, 1, 15, 6, 2, 9);
        Check.put(x, "rain");
        String was = State.withTape(x);
        for (int i = 0; i < 12; i++) {
            ask(x, i);
            due("nothing happened by " + i, State.withTape(x), was);
        }
    }
}
