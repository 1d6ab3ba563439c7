/** The edges that the document names for days and what is (part II, promises 6 to 11 and 35 to 37). */
public final class DaysEdgeTest {
    private static final Check CHECK = new Check("DaysEdgeTest");
    private static final int[] NO_SUCH = {-1, -2, Integer.MIN_VALUE, Integer.MAX_VALUE};

    public static void main(String[] args) {
        levelRoundedDown();
        mondays();
        seenAheadOfRain();
        rainAgainAndAgain();
        rainIntoEachCell();
        wantIsHeld();
        lawsWrap();
        lawsRoundTowardsZero();
        lawsThatDivideByZero();
        variables();
        takesNoMoreThanTheWater();
        dryBelowTheNeed();
        villageByVillage();
        flowsRoundTowardsZero();
        riverRoundsTowardsZero();
        allAtOnce();
        saltOfOne();
        saltRoundedDownEach();
        saltBehindAllTaken();
        saltOfAllTheWater();
        saltyAtMost();
        saltyWithoutWater();
        noSuchCell();
        noSuchVillage();
        wantNow();
        runEdges();
        flowOfThisDay();
        noSuchWay();
        pourEdges();
        holdEdges();
        eachIsHeld();
        slotsApart();
        noSuchSlot();
        countEdges();
        dayTimesDayWraps();
        asLongAsCanBe();
        CHECK.end();
    }

    private static void due(String call, long got, long want) {
        CHECK.due(call, got, want);
    }

    private static void due(String call, boolean got, boolean want) {
        CHECK.due(call, got, want);
    }

    private static void due(String what, String got, String want) {
        CHECK.due(what + ": " + got + " / " + want, got.equals(want), true);
    }

    // ---- part II

    /** "its WATER by its ROOM, rounded down" */
    private static void levelRoundedDown() {
        for (int room = 1; room <= 9; room++) {
            WellVillages x = Check.over("cell a " + room + " 0;");
            for (int water : new int[] {0, 1, room - 1, room, room + 1, 2 * room - 1, 2 * room, 9999}) {
                x.pour(0, water);
                int level = 0;
                while ((level + 1) * room <= water) {
                    level++;
                }
                due("level of " + water + " by " + room, x.cell(0, 1), level);
            }
        }
    }

    /** "a MONDAY (days 0, 7, 14, ..) the LEVELS of all CELLS are SEEN (till the next one)" */
    private static void mondays() {
        WellVillages x = Check.over("cell a 1 10;cell b 2 10;rain 4;");
        due("ahead of day 0", x.cell(0, 2), 0);
        for (int days = 1; days <= 29; days++) {
            x.run(1);
            int monday = days <= 7 ? 0 : days <= 14 ? 7 : days <= 21 ? 14 : days <= 28 ? 21 : 28;
            due("seen of a behind " + days + " days", x.cell(0, 2), 10 + 4 * monday);
            due("seen of b behind " + days + " days", x.cell(1, 2), 5 + 2 * monday);
        }
    }

    private static void seenAheadOfRain() {
        WellVillages x = Check.over("cell a 1 0;rain 50;village v a 0=seen;");
        x.run(1);
        due("seen", x.cell(0, 2), 0);
        due("it took what was seen", x.village(0, 0), 0);
        due("rain came", x.cell(0, 0), 50);
    }

    /** "day by day, again and again" */
    private static void rainAgainAndAgain() {
        for (int numbers : new int[] {1, 2, 7, 13, 14}) {
            StringBuilder text = new StringBuilder("cell a 1 0;rain");
            for (int i = 1; i <= numbers; i++) {
                text.append(' ').append(i);
            }
            WellVillages x = Check.over(text + ";");
            int sum = 0;
            for (int day = 0; day < 30; day++) {
                sum += day % numbers + 1;
                x.run(1);
                due("rain of " + numbers + " on day " + day, x.cell(0, 0), sum);
            }
        }
    }

    private static void rainIntoEachCell() {
        StringBuilder text = new StringBuilder("rain 99;");
        for (int i = 0; i < 12; i++) {
            text.append("cell ").append((char) ('a' + i)).append(" 9 0;");
        }
        WellVillages x = Check.over(text.toString());
        x.run(1);
        for (int c = 0; c < 12; c++) {
            due("rain into cell " + c, x.cell(c, 0), 99);
        }
        due("all water", x.count(9), 12 * 99);
    }

    private static long wants(String law) {
        return Check.over("cell a 1 50;cell b 1 7;rain 3;village v a 0=" + law + ";").want(0);
    }

    /** "held to 0 .. 999" */
    private static void wantIsHeld() {
        due("0-9999*9999", wants("0-9999*9999"), 0);
        due("0-1", wants("0-1"), 0);
        due("0", wants("0"), 0);
        due("1", wants("1"), 1);
        due("998", wants("998"), 998);
        due("999", wants("999"), 999);
        due("1000", wants("1000"), 999);
        due("9999*9999", wants("9999*9999"), 999);
        WellVillages x = Check.over("cell a 1 5000;village v a 0=1000;village w a 0=0-5;");
        x.run(1);
        due("it takes 999", x.village(0, 0), 999);
        due("it takes 0", x.village(1, 0), 0);
        due("the rest stays", x.cell(0, 0), 4001);
    }

    /** "ints of 32 bits that wrap": m is 2 to the 31st, which wraps to the least int. */
    private static void lawsWrap() {
        String m = "8192*8192*32";
        due("m", wants(m), 0);
        due("m-1", wants(m + "-1"), 999);
        due("m-1+1", wants(m + "-1+1"), 0);
        due("0-m", wants("0-" + m), 0);
        due("0-m-1", wants("0-" + m + "-1"), 999);
        due("m*(0-1)", wants(m + "*(0-1)"), 0);
        due("m/(0-1)", wants(m + "/(0-1)"), 0);
        due("m/(0-1)-1", wants(m + "/(0-1)-1"), 999);
        due("m+m+7", wants(m + "+" + m + "+7"), 7);
        due("m*2+7", wants(m + "*2+7"), 7);
        due("(m-1)*(m-1)", wants("(" + m + "-1)*(" + m + "-1)"), 1);
        due("(m-1)*(m-1)+41", wants("(" + m + "-1)*(" + m + "-1)+41"), 42);
        due("65536*65536+9", wants("8192*8*8192*8+9"), 9);
    }

    /** "/ rounded towards 0" */
    private static void lawsRoundTowardsZero() {
        due("7/2", wants("7/2"), 3);
        due("10+(0-7)/2", wants("10+(0-7)/2"), 7);
        due("10+7/(0-2)", wants("10+7/(0-2)"), 7);
        due("10+(0-7)/(0-2)", wants("10+(0-7)/(0-2)"), 13);
        due("10+(0-1)/2", wants("10+(0-1)/2"), 10);
        due("10+1/(0-9)", wants("10+1/(0-9)"), 10);
        due("0/5", wants("0/5+4"), 4);
    }

    /** "a LAW that divides by 0 is 0": all of it, not that part. */
    private static void lawsThatDivideByZero() {
        for (String law : new String[] {"7+1/0", "1/0+7", "7+0/0", "7+0*(1/0)", "7+(1/0)*0", "7+5/(3-3)", "7+5/(0/1)", "7+9/day",
            "7+9/took", "7+9/dry", "7-(8-(9-1/0))", "1/0/0+7", "7+3/(1/2)"}) {
            due(law, wants(law), 0);
        }
        due("7+9/today", wants("7+9/today"), 10);
        WellVillages x = Check.over("cell a 1 9;village u a 0=1/0+5;village v a 0=7/day;village w a 0=3;");
        due("divides on day 0", x.want(1), 0);
        due("another one's law is its own", x.want(2), 3);
        x.run(1);
        due("it took nothing", x.village(0, 0), 0);
        due("it took by its own law", x.village(2, 0), 3);
        due("does not on day 1", x.want(1), 7);
        x = Check.over("cell a 1 9;village u a 0=1/0;village v a 0=5;");
        due("the second one's law is its own", x.want(1), 5);
    }

    /** seen, at, day, today, took, dry at first and later; of a village whose cell is not the first. */
    private static void variables() {
        String text = "cell a 1 300;cell b 1 20;cell c 2 31;rain 2 5;village v b 9=";
        long[][] due = {{20, 20}, {15, 15}, {0, 1}, {2, 5}, {0, 20}, {0, 0}};
        String[] laws = {"seen", "at c", "day", "today", "took", "dry"};
        for (int i = 0; i < laws.length; i++) {
            WellVillages x = Check.over(text + laws[i] + ";");
            due(laws[i] + " at first", x.want(0), due[i][0]);
            x = Check.over(text + "day*0+20+0*(" + laws[i] + ");village w b 9=" + laws[i] + ";");
            due(laws[i] + " of another one", x.want(1), due[i][0]);
        }
        WellVillages x = Check.over(text + "seen;village d c 40=dry;village t a 0=took*2+1;village s c 0=at b+at a/100;");
        x.run(1);
        due("seen", x.want(0), 20);
        due("dry behind a dry day", x.want(1), 1);
        due("took behind 1", x.want(2), 3);
        due("at b and at a", x.want(3), 23);
        x.run(1);
        due("dry behind two", x.want(1), 2);
        due("took behind 3", x.want(2), 7);
    }

    /** "it TAKES that, but no more than the WATER of its CELL" */
    private static void takesNoMoreThanTheWater() {
        for (int water : new int[] {0, 1, 9, 10, 11, 9999}) {
            WellVillages x = Check.over("cell a 3 " + water + ";village v a 0=10;");
            x.run(1);
            due("took of " + water, x.village(0, 0), Math.min(10, water));
            due("left of " + water, x.cell(0, 0), Math.max(0, water - 10));
        }
        WellVillages x = Check.over("cell a 1 5;rain 3;village v a 0=10;");
        x.run(1);
        due("with the rain", x.village(0, 0), 8);
    }

    /** "it is DRY that day if it TAKES less than its NEED" */
    private static void dryBelowTheNeed() {
        for (int need = 9; need <= 11; need++) {
            WellVillages x = Check.over("cell a 1 100;village v a " + need + "=10;village w a " + need + "=9999;");
            x.run(1);
            due("wants 10, needs " + need, x.village(0, 1), need > 10 ? 1 : 0);
            due("wants all, needs " + need, x.village(1, 1), 0);
        }
        WellVillages x = Check.over("cell a 1 99;village v a 99=99;village w a 0=5;");
        x.run(1);
        due("all that it needs", x.village(0, 1), 0);
        due("no need", x.village(1, 1), 0);
        due("no first dry day", x.village(0, 2), -2);
        x.run(3);
        due("dry on three days", x.village(0, 1), 3);
        due("the first of them", x.village(0, 2), 1);
        due("no need, no water", x.village(1, 1), 0);
        x.pour(0, 99);
        x.run(1);
        due("not dry again", x.village(0, 1), 3);
        due("the first of them stays", x.village(0, 2), 1);
        x = Check.over("cell a 1 0;village v a 1=1;");
        x.run(2);
        due("dry on day 0", x.village(0, 2), 0);
    }

    private static void villageByVillage() {
        WellVillages x = Check.over("cell a 1 10;village u a 0=4;village v a 0=4;village w a 0=4;village z a 0=4;");
        x.run(1);
        int[] took = {4, 4, 2, 0};
        for (int v = 0; v < 4; v++) {
            due("took of " + v, x.village(v, 0), took[v]);
            due("all that it took of " + v, x.village(v, 5), took[v]);
        }
    }

    /** "the difference of LEVELS .. times its WIDTH by 100, rounded towards 0 (below 0: the other way)" */
    private static void flowsRoundTowardsZero() {
        int[][] cases = {{1, 99, 0}, {1, 100, 1}, {1, 199, 1}, {1, 200, 2}, {3, 33, 0}, {3, 34, 1}, {3, 66, 1}, {3, 67, 2},
            {10, 9, 0}, {10, 10, 1}, {10, 9999, 999}};
        for (int[] c : cases) {
            String cells = "cell a 1 " + c[1] + ";cell b 1 0;";
            WellVillages x = Check.over(cells + "pass a b " + c[0] + ";");
            due("from the first, " + c[1], x.flow(0, false), c[2]);
            x.run(1);
            due("it came", x.cell(1, 0), c[2]);
            due("it went", x.cell(0, 0), c[1] - c[2]);
            x = Check.over(cells + "pass b a " + c[0] + ";");
            due("the other way, " + c[1], x.flow(0, false), -c[2]);
            x.run(1);
            due("it came", x.cell(1, 0), c[2]);
            due("it went", x.cell(0, 0), c[1] - c[2]);
        }
    }

    /** "by each RIVER likewise, from its LEVEL into its CELL" */
    private static void riverRoundsTowardsZero() {
        int[][] cases = {{0, 99, 1, 0}, {0, 100, 1, -1}, {0, 199, 1, -1}, {0, 200, 1, -2}, {99, 0, 1, 0}, {100, 0, 1, 1},
            {199, 0, 1, 1}, {200, 0, 1, 2}, {999, 0, 10, 99}, {999, 9999, 10, -900}, {50, 50, 10, 0}};
        for (int[] c : cases) {
            WellVillages x = Check.over("cell a 1 " + c[1] + ";river a " + c[0] + " " + c[2] + " 0;");
            due("river of " + c[0] + " at " + c[1], x.flow(0, true), c[3]);
            x.run(1);
            due("water", x.cell(0, 0), c[1] + c[3]);
        }
    }

    /** "then all at once, by LEVELS as they are then" */
    private static void allAtOnce() {
        WellVillages x = Check.over("cell a 1 100;cell b 1 0;cell c 1 0;pass a b 10;pass b c 10;pass a b 10;river b 100 10 0;");
        x.run(1);
        due("a", x.cell(0, 0), 80);
        due("b", x.cell(1, 0), 30);
        due("c", x.cell(2, 0), 0);
        // eight ways of a cell take no more than there is
        StringBuilder text = new StringBuilder("cell a 1 9999;cell b 9 0;");
        x = Check.over(text.append("pass a b 10;".repeat(8)).toString());
        x.run(1);
        due("a", x.cell(0, 0), 9999 - 8 * 999);
        due("b", x.cell(1, 0), 8 * 999);
    }

    /** "what flows in by a RIVER brings its SALT for each 1 of it" */
    private static void saltOfOne() {
        WellVillages x = Check.over("cell a 1 0;river a 100 1 19;");
        x.run(1);
        due("one of water", x.cell(0, 0), 1);
        due("its salt", x.cell(0, 3), 19);
        due("how salty", x.cell(0, 4), 1900);
        x = Check.over("cell a 1 0;river a 200 1 0;");
        x.run(1);
        due("no salt", x.cell(0, 3), 0);
        x = Check.over("cell a 1 300;river a 0 10 99;");
        x.run(1);
        due("what flows out brings none", x.cell(0, 3), 0);
    }

    /** A cell with 19 of salt, which is then told a water of 100: the river's level, so that this does not flow. */
    private static WellVillages nineteen(String rest) {
        WellVillages x = Check.over("cell a 1 0;cell b 1 0;cell c 1 0;river a 100 1 19;" + rest);
        x.run(1);
        x.pour(0, 100);
        return x;
    }

    /** "takes along SALT times that by WATER, rounded down each" */
    private static void saltRoundedDownEach() {
        WellVillages x = nineteen("pass a b 10;pass c a 10;");
        x.run(1); // 10 each, with 190 by 100
        due("a", x.cell(0, 3), 17);
        due("b", x.cell(1, 3), 1);
        due("c", x.cell(2, 3), 1);
        due("water of a", x.cell(0, 0), 80);
        x = nineteen("river a 0 10 50;river a 0 5 50;");
        x.pour(0, 100);
        x.run(1); // 10 with 1, 5 with 0
        due("by rivers", x.cell(0, 3), 18);
        due("water", x.cell(0, 0), 85);
    }

    /** "TAKEN: by WATER and SALT as they are ahead of it; flows: by those behind all TAKEN" */
    private static void saltBehindAllTaken() {
        WellVillages x = nineteen("pass a b 10;village v a 0=10*day;village w a 0=10*day;");
        x.run(1);
        // 10 of 100 take 1 of 19, 10 of 90 take 2 of 18; 8 of 80 take 1 of 16 (160 by 80 would be 2 with 20); 0 come
        due("salt of a", x.cell(0, 3), 15);
        due("water of a", x.cell(0, 0), 72);
        due("salt of b", x.cell(1, 3), 1);
    }

    private static void saltOfAllTheWater() {
        WellVillages x = nineteen("village v a 0=50*day;");
        x.pour(0, 5);
        x.run(1);
        due("it took all", x.village(0, 0), 5);
        due("and all its salt: what is there the river brought anew", x.cell(0, 3), 19);
        due("with one of water", x.cell(0, 0), 1);
        x = nineteen("village v a 0=0;");
        x.run(1);
        due("it took nothing", x.cell(0, 3), 19);
        x = nineteen("rain 0 0 40;village v a 0=5*day;");
        x.pour(0, 0);
        x.run(1); // the river brings 1 again, with 19
        due("nothing to take", x.village(0, 0), 0);
        due("salt stays without water", x.cell(0, 3), 38);
    }

    /** "1000000000 at most": two rivers whose salts make 100 bring a salt of just 10,000,000. */
    private static void saltyAtMost() {
        WellVillages x = Check.over("cell a 9 0;river a 999 10 99;river a 999 10 1;");
        for (int i = 0; i < 200 && x.cell(0, 3) <= 9999900 - 450000; i++) {
            x.pour(0, 0);
            x.run(400);
        }
        for (int i = 0; i < 200 && x.cell(0, 3) < 9999900; i++) {
            int more = Math.min(99, (9999900 - x.cell(0, 3)) / 100);
            x.pour(0, 9 * (999 - 10 * more));
            x.run(1);
        }
        due("salt", x.cell(0, 3), 9999900);
        x.pour(0, 1);
        due("below", x.cell(0, 4), 999990000);
        x.pour(0, 9 * 989);
        x.run(1);
        due("salt", x.cell(0, 3), 10000000);
        x.pour(0, 1);
        due("just so", x.cell(0, 4), 1000000000);
        x.pour(0, 2);
        due("half of it", x.cell(0, 4), 500000000);
        x.pour(0, 9 * 989);
        x.run(1);
        x.pour(0, 1);
        due("above", x.cell(0, 4), 1000000000);
        x.pour(0, 3);
        due("by 3, rounded down", x.cell(0, 4), 333336666);
    }

    /** "(0 without WATER)" */
    private static void saltyWithoutWater() {
        WellVillages x = nineteen("");
        due("19 in 100", x.cell(0, 4), 19);
        x.pour(0, 0);
        due("without water", x.cell(0, 4), 0);
        due("the salt is there", x.cell(0, 3), 19);
        x.pour(0, 1901);
        due("1900 by 1901", x.cell(0, 4), 0);
        x.pour(0, 1900);
        due("1900 by 1900", x.cell(0, 4), 1);
    }

    // ---- promises 6 to 11

    /** cell: "NONE for others." */
    private static void noSuchCell() {
        WellVillages x = Check.over("cell a 2 50;cell b 1 9;pass a b 7;");
        for (int what = 0; what <= 6; what++) {
            for (int c : new int[] {2, 3, 11, 12}) {
                due("cell(" + c + ", " + what + ")", x.cell(c, what), -1);
            }
            for (int c : NO_SUCH) {
                due("cell(" + c + ", " + what + ")", x.cell(c, what), -1);
            }
        }
        for (int what : new int[] {-1, 7, 8, Integer.MIN_VALUE, Integer.MAX_VALUE}) {
            due("cell(1, " + what + ")", x.cell(1, what), -1);
        }
        int[] due = {9, 9, 0, 0, 0, 1, 1};
        for (int what = 0; what <= 6; what++) {
            due("cell(1, " + what + ")", x.cell(1, what), due[what]);
        }
    }

    /** village: "NONE for others." */
    private static void noSuchVillage() {
        WellVillages x = Check.over("cell a 2 50;cell b 1 9;village v a 7=1;village w b 8=9;");
        for (int what = 0; what <= 5; what++) {
            for (int v : new int[] {2, 3, 5, 6}) {
                due("village(" + v + ", " + what + ")", x.village(v, what), -1);
            }
            for (int v : NO_SUCH) {
                due("village(" + v + ", " + what + ")", x.village(v, what), -1);
            }
        }
        for (int what : new int[] {-1, 6, 7, Integer.MIN_VALUE, Integer.MAX_VALUE}) {
            due("village(1, " + what + ")", x.village(1, what), -1);
        }
        int[] due = {0, 0, -2, 1, 8, 0};
        for (int what = 0; what <= 5; what++) {
            due("village(1, " + what + ")", x.village(1, what), due[what]);
        }
        for (int v : new int[] {2, 6, -1, Integer.MIN_VALUE, Integer.MAX_VALUE}) {
            due("want(" + v + ")", x.want(v), -1);
        }
    }

    /** "if it were its turn now, nothing else having been done this day (a MONDAY's LEVELS are SEEN, RAIN has come)" */
    private static void wantNow() {
        WellVillages x = Check.over("cell a 1 100;rain 1 6;village u a 0=50;village v a 0=seen;village w a 0=today;"
            + "village y a 0=took;village z a 99=dry;");
        due("u takes nothing ahead of it", x.want(1), 100);
        due("today", x.want(2), 1);
        due("took", x.want(3), 0);
        due("it is not dry yet", x.want(4), 0);
        due("seen is as it was", x.cell(0, 2), 0);
        due("water is as it was", x.cell(0, 0), 100);
        x.run(1);
        due("seen on monday", x.want(1), 100);
        due("today", x.want(2), 6);
        due("dry", x.want(4), 1);
        x.run(5);
        x.pour(0, 77);
        due("on day 6 still of day 0", x.want(1), 100);
        x.run(1);
        x.pour(0, 55);
        due("on day 7 anew", x.want(1), 55);
        due("that is not seen yet", x.cell(0, 2), 100);
    }

    /** "n days (0 .. 400) go by: which day it is; NONE, and nothing happens: no such n" */
    private static void runEdges() {
        WellVillages x = Check.over("cell a 1 100;rain 1;village v a 9=2;");
        String was = State.withTape(x);
        for (int n : new int[] {-1, -400, 401, 402, Integer.MIN_VALUE, Integer.MAX_VALUE}) {
            due("run(" + n + ")", x.run(n), -1);
        }
        due("run(0)", x.run(0), 0);
        due("nothing happened", State.withTape(x), was);
        due("run(1)", x.run(1), 1);
        due("run(399)", x.run(399), 400);
        due("run(400)", x.run(400), 800);
        due("run(401)", x.run(401), -1);
        due("count(4)", x.count(4), 800);
        due("run(0)", x.run(0), 800);
    }

    /** "What would flow .. at the end of this day": behind its monday, its rain and its villages. */
    private static void flowOfThisDay() {
        WellVillages x = Check.over("cell a 1 0;cell b 9 0;pass a b 10;river a 0 10 0;river b 999 10 0;rain 90;village v b 0=today/2;"
            + "village w a 0=seen;");
        // rain 90 each: a 90, b 45 of room 9: level 5
        due("over the pass", x.flow(0, false), 8);
        due("by the first river", x.flow(0, true), -9);
        due("by the second river", x.flow(1, true), 99);
        due("nothing happened", x.count(9), 0);
        x.pour(0, 900);
        due("monday's levels are seen", x.flow(0, false), 8); // w takes 900 of 990
        x.run(7);
        x.pour(0, 500);
        due("a later monday's too", x.flow(0, true), -9);
    }

    /** flow: "-1000000: no such one" */
    private static void noSuchWay() {
        WellVillages x = Check.over("cell a 1 100;cell b 1 0;pass a b 10;pass b a 10;river a 0 10 0;");
        due("flow(1, false)", x.flow(1, false), -10);
        due("flow(0, true)", x.flow(0, true), -10);
        due("flow(2, false)", x.flow(2, false), -1000000);
        due("flow(1, true)", x.flow(1, true), -1000000);
        due("flow(3, true)", x.flow(3, true), -1000000);
        due("flow(20, false)", x.flow(20, false), -1000000);
        for (int way : NO_SUCH) {
            due("flow(" + way + ", false)", x.flow(way, false), -1000000);
            due("flow(" + way + ", true)", x.flow(way, true), -1000000);
        }
    }

    /** "WATER (0 .. 9999) of a CELL is told anew (SALT stays): true; false: no such ones." */
    private static void pourEdges() {
        WellVillages x = nineteen("village v a 5=day;");
        String was = State.withTape(x);
        for (int water : new int[] {-1, 10000, Integer.MIN_VALUE, Integer.MAX_VALUE}) {
            due("pour(0, " + water + ")", x.pour(0, water), false);
        }
        for (int c : new int[] {-1, 3, 12, Integer.MIN_VALUE, Integer.MAX_VALUE}) {
            due("pour(" + c + ", 5)", x.pour(c, 5), false);
        }
        due("nothing happened", State.withTape(x), was);
        for (int water : new int[] {0, 1, 9998, 9999}) {
            due("pour(2, " + water + ")", x.pour(2, water), true);
            due("cell(2, 0)", x.cell(2, 0), water);
            due("pour(0, " + water + ")", x.pour(0, water), true);
            due("salt stays", x.cell(0, 3), 19);
            due("seen stays", x.cell(0, 2), 0);
        }
        due("the others stay", x.cell(1, 0), 0);
        due("the day stays", x.count(4), 1);
    }

    // ---- promises 35 to 37

    private static final String CHANGING = "cell a 1 500;cell b 1 0;river b 300 10 5;rain 1;village v a 20=45-day*5;";

    private static long[] parts(WellVillages x) {
        return new long[] {x.cell(0, 0), x.cell(1, 3), x.cell(0, 2), x.village(0, 0), x.village(0, 1), x.village(0, 2),
            x.village(0, 5), x.count(4)};
    }

    private static void holdEdges() {
        WellVillages x = Check.over(CHANGING);
        x.run(3);
        String was = State.of(x);
        for (int slot : new int[] {-1, 3, 4, Integer.MIN_VALUE, Integer.MAX_VALUE}) {
            due("hold(" + slot + ")", x.hold(slot), false);
            due("restore(" + slot + ")", x.restore(slot), false);
        }
        for (int slot = 0; slot <= 2; slot++) {
            due("restore(" + slot + ") of nothing", x.restore(slot), false);
        }
        due("nothing happened", State.of(x), was);
        due("count(8)", x.count(8), 0);
        for (int slot = 0; slot <= 2; slot++) {
            due("hold(" + slot + ")", x.hold(slot), true);
            due("count(8)", x.count(8), slot + 1);
        }
        due("hold(0) again", x.hold(0), true);
        due("count(8)", x.count(8), 3);
        due("all else stays", State.of(x).replaceFirst(" 3 465 ", " 0 465 "), was); // 3 slots, 465 of water
    }

    /** "All of the days (WATER, SALT, SEEN, TOOK, DRY, the day) is held": each of them is another one later. */
    private static void eachIsHeld() {
        WellVillages x = Check.over(CHANGING);
        x.run(3);
        long[] early = parts(x);
        x.hold(0);
        x.run(9);
        long[] late = parts(x);
        x.hold(1);
        for (int i = 0; i < early.length; i++) {
            due("part " + i + " has changed", early[i] != late[i], true);
        }
        for (int round = 0; round < 2; round++) {
            due("restore(0)", x.restore(0), true);
            for (int i = 0; i < early.length; i++) {
                due("part " + i + " as early", parts(x)[i], early[i]);
            }
            x.pour(0, 1);
            x.run(round * 20);
            due("restore(1)", x.restore(1), true);
            for (int i = 0; i < early.length; i++) {
                due("part " + i + " as late", parts(x)[i], late[i]);
            }
        }
        x.restore(0);
        x.run(9);
        for (int i = 0; i < early.length; i++) {
            due("part " + i + " goes on alike", parts(x)[i], late[i]);
        }
    }

    /** "(that stays there; what is TOLD stays)" */
    private static void slotsApart() {
        WellVillages x = Check.over("cell a 1 0;rain 1;");
        for (int slot = 0; slot <= 2; slot++) {
            x.run(slot + 1);
            x.hold(slot);
        }
        x.tell(5, 0, 5);
        x.tell(6, 0, 7);
        int[] days = {1, 3, 6};
        for (int slot : new int[] {2, 0, 1, 1, 0, 2}) {
            due("restore(" + slot + ")", x.restore(slot), true);
            due("day of slot " + slot, x.count(4), days[slot]);
            due("water of slot " + slot, x.cell(0, 0), days[slot]);
            due("told ones stay", x.count(6), 2);
            due("as they were told", x.off(2), 1);
            x.run(10);
        }
        x.restore(0);
        x.hold(2);
        x.run(1);
        x.restore(2);
        due("held anew", x.count(4), 1);
        x.restore(1);
        due("the other stays", x.count(4), 3);
        x.forget();
        x.restore(0);
        due("what was forgotten does not come back", x.count(6), 0);
    }

    /** restore: "false, and nothing happens: no such one, nothing is held" */
    private static void noSuchSlot() {
        WellVillages x = Check.over(CHANGING);
        x.run(2);
        x.hold(1);
        x.run(2);
        String was = State.of(x);
        for (int slot : new int[] {0, 2, 3, -1, Integer.MIN_VALUE, Integer.MAX_VALUE}) {
            due("restore(" + slot + ")", x.restore(slot), false);
            due("nothing happened", State.of(x), was);
        }
    }

    /** count: "NONE for others." */
    private static void countEdges() {
        WellVillages x = Check.over("cell a 1 30;cell b 2 12;pass a b 1;river a 3 10 5;village v a 40=9;rain 1 2 3 4;");
        for (int what : new int[] {-1, 10, 11, Integer.MIN_VALUE, Integer.MAX_VALUE}) {
            due("count(" + what + ")", x.count(what), -1);
        }
        int[] due = {2, 1, 1, 1, 0, 4, 0, 0, 0, 42};
        for (int what = 0; what <= 9; what++) {
            due("count(" + what + ")", x.count(what), due[what]);
        }
    }

    // ---- an object's last calls

    /** 46340 times itself is an int, 46341 times itself wraps below 0. */
    private static void dayTimesDayWraps() {
        WellVillages x = Check.over("cell a 1 0;village v a 0=day*day;");
        for (int i = 0; i < 115; i++) {
            x.run(400);
        }
        due("day", x.run(340), 46340);
        due("46340 * 46340", x.want(0), 999);
        x.run(1);
        due("46341 * 46341", x.want(0), 0);
    }

    /** Of 512 calls 500 are runs of 400 days: nothing of what is counted wraps. */
    private static void asLongAsCanBe() {
        WellVillages x = Check.over("cell a 1 9999;cell b 9 0;cell c 1 9999;pass b c 10;rain 99;river a 0 1 5;"
            + "village v b 99=98;village w b 1=999;village z c 0=1;");
        WellVillages y = Check.over("cell a 1 9999;rain 99;village v a 99=0;");
        for (int i = 0; i < 500; i++) {
            x.run(400);
            y.run(400);
        }
        int days = 200000;
        due("day", x.count(4), days);
        due("all that v took", x.village(0, 5), 98 * days);
        due("dry days of v", x.village(0, 1), days);
        due("first dry day of v", x.village(0, 2), 0);
        due("all that z took", x.village(2, 5), days);
        due("a: as much flows out as comes", x.flow(0, true), -99);
        due("all rain less all that was taken is there", x.cell(1, 0) + x.cell(2, 0),
            9999 + 2 * 99 * days - x.village(0, 5) - x.village(1, 5) - x.village(2, 5));
        due("water that no one takes", y.cell(0, 0), 9999 + 99 * days);
        due("its level", y.cell(0, 1), 9999 + 99 * days);
        due("all water", y.count(9), 9999 + 99 * days);
        due("what would come", y.balance(200, 3), 200 * 99);
        due("dry days", y.village(0, 1), days);
    }
}
