/** The edges that the document names for what would be (part III, promises 12 to 26). */
public final class OutlookEdgeTest {
    private static final Check CHECK = new Check("OutlookEdgeTest");
    private static final int NOT = -1000000;
    private static final int[] NO_DAYS = {0, -1, -200, 201, 202, Integer.MIN_VALUE, Integer.MAX_VALUE};
    /** Two of each but one river: what has the number 2 is not there, of rivers what has the number 1. */
    private static final String TWO = "cell a 1 100;cell b 1 50;pass a b 10;pass b a 5;river b 90 10 9;rain 1 2;"
        + "village u a 10=40;village v a 10=20;";

    public static void main(String[] args) {
        noSuchDays();
        noSuchOnes();
        daysAtMost();
        firstDryDay();
        drySinceNow();
        saltyEdges();
        saltyAtADaysEnd();
        effectOfASealedPass();
        effectOfADam();
        effectOfARest();
        savedMoreAndLess();
        savedItself();
        restIsNotLookedAt();
        fairestEdges();
        fairestInsteadOfLaws();
        mostEdges();
        mostOfNone();
        firstOfEdges();
        shareEdges();
        shareRoundedDown();
        shutEdges();
        shutFewest();
        balanceEdges();
        partsEdges();
        bridgesEdges();
        worthSets();
        worthAtItsTurn();
        blameOfOne();
        blameOfThree();
        blameBelowZero();
        blamesAddUp();
        sixVillages();
        nothingHappens();
        CHECK.end();
    }

    private static void due(String call, long got, long want) {
        CHECK.due(call, got, want);
    }

    private static void due(String what, String got, String want) {
        CHECK.due(what + ": " + got + " / " + want, got.equals(want), true);
    }

    /** "n days from now on (1 .. 200; nothing happens)": no other n, for any call. */
    private static void noSuchDays() {
        WellVillages x = Check.over(TWO);
        x.run(3);
        String was = State.withTape(x);
        for (int n : NO_DAYS) {
            due("dry " + n, x.dry(0, n), -1);
            due("dries " + n, x.dries(0, n), -1);
            due("salty " + n, x.salty(0, 1, n), -1);
            due("effect " + n, x.effect(0, 0, 0, n), NOT);
            due("saved " + n, x.saved(0, 0, 1, n), NOT);
            due("fairest " + n, x.fairest(n), -1);
            due("most " + n, x.most(0, n), -1);
            due("firstOf " + n, x.firstOf(n), -1);
            due("share " + n, x.share(n), -1);
            due("shut " + n, x.shut(0, n), -1);
            due("balance " + n, x.balance(n, 0), NOT);
            due("worth " + n, x.worth(0, 0, n), -1);
            due("blame " + n, x.blame(0, 1, n), NOT);
        }
        due("nothing happened", State.withTape(x), was);
        WellVillages none = new WellVillages();
        due("firstOf without villages, no such n", none.firstOf(0), -1);
        due("firstOf without villages, no such n", none.firstOf(201), -1);
        due("balance of nothing, no such n", none.balance(201, 3), NOT);
    }

    /** "no such ones": a village, a cell, a pass, a river, a kind of change, a set that is not there. */
    private static void noSuchOnes() {
        WellVillages x = Check.over(TWO);
        x.run(3);
        String was = State.withTape(x);
        for (int bad : new int[] {-1, 2, 3, 6, 12, 20, Integer.MIN_VALUE, Integer.MAX_VALUE}) {
            due("dry " + bad, x.dry(bad, 1), -1);
            due("dries " + bad, x.dries(bad, 1), -1);
            due("salty " + bad, x.salty(bad, 1, 1), -1);
            due("effect of village " + bad, x.effect(0, bad, 0, 1), NOT);
            due("effect of pass " + bad, x.effect(1, bad, 0, 1), NOT);
            due("effect of river " + bad, x.effect(2, bad, 0, 1), NOT);
            due("effect on cell " + bad, x.effect(1, 0, bad, 1), NOT);
            due("saved by village " + bad, x.saved(0, bad, 0, 1), NOT);
            due("saved by pass " + bad, x.saved(1, bad, 0, 1), NOT);
            due("saved by river " + bad, x.saved(2, bad, 0, 1), NOT);
            due("saved for " + bad, x.saved(1, 0, bad, 1), NOT);
            due("most " + bad, x.most(bad, 1), -1);
            due("shut " + bad, x.shut(bad, 1), -1);
            due("worth " + bad, x.worth(bad, 0, 1), -1);
            due("blame for " + bad, x.blame(bad, 0, 1), NOT);
            due("blame of " + bad, x.blame(0, bad, 1), NOT);
        }
        due("effect of river 1", x.effect(2, 1, 0, 1), NOT);
        due("saved by river 1", x.saved(2, 1, 0, 1), NOT);
        for (int what : new int[] {-1, 3, 4, Integer.MIN_VALUE, Integer.MAX_VALUE}) {
            due("effect what " + what, x.effect(what, 0, 0, 1), NOT);
            due("saved what " + what, x.saved(what, 0, 1, 1), NOT);
        }
        for (int what : new int[] {-1, 4, 5, Integer.MIN_VALUE, Integer.MAX_VALUE}) {
            due("balance what " + what, x.balance(1, what), NOT);
        }
        for (int t : new int[] {0, -1, 10000, Integer.MIN_VALUE, Integer.MAX_VALUE}) {
            due("salty by " + t, x.salty(0, t, 1), -1);
        }
        for (int set : new int[] {-1, 4, 5, 64, Integer.MIN_VALUE, Integer.MAX_VALUE}) {
            due("worth of set " + set, x.worth(0, set, 1), -1);
        }
        due("nothing happened", State.withTape(x), was);
    }

    /** 200 days are looked at, not one more: the 200th is the first that is dry. */
    private static void daysAtMost() {
        WellVillages x = Check.over("cell a 1 199;village v a 1=1;");
        due("dry(0, 199)", x.dry(0, 199), -2);
        due("dry(0, 200)", x.dry(0, 200), 199);
        due("dries(0, 199)", x.dries(0, 199), 0);
        due("dries(0, 200)", x.dries(0, 200), 1);
        due("firstOf(199)", x.firstOf(199), -2);
        due("firstOf(200)", x.firstOf(200), 0);
        due("shut(0, 199)", x.shut(0, 199), 0);
        due("shut(0, 200)", x.shut(0, 200), -2);
        due("fairest(199)", x.fairest(199), 1);
        due("fairest(200)", x.fairest(200), 0);
        due("most(0, 199)", x.most(0, 199), 1);
        due("most(0, 200)", x.most(0, 200), 0);
        due("share(199)", x.share(199), 100);
        due("share(200)", x.share(200), 99);
        due("worth(0, 1, 199)", x.worth(0, 1, 199), 0);
        due("worth(0, 1, 200)", x.worth(0, 1, 200), 1);
        due("blame(0, 0, 200)", x.blame(0, 0, 200), 1);
        due("balance(199, 1)", x.balance(199, 1), 199);
        due("balance(200, 1)", x.balance(200, 1), 199);
        due("balance(200, 3)", x.balance(200, 3), -199);
        due("effect(0, 0, 0, 198)", x.effect(0, 0, 0, 198), 198);
        due("effect(0, 0, 0, 200)", x.effect(0, 0, 0, 200), 199);
    }

    /** "(as a number of days from now on, 0 the next one)"; "-2: none" */
    private static void firstDryDay() {
        WellVillages x = Check.over("cell a 1 30;village v a 10=10;village w a 0=0;village z a 1=0;");
        due("dry(0, 3)", x.dry(0, 3), -2);
        due("dry(0, 4)", x.dry(0, 4), 3);
        due("dries(0, 4)", x.dries(0, 4), 1);
        due("dries(0, 3)", x.dries(0, 3), 0);
        due("without a need", x.dry(1, 200), -2);
        due("on the next day", x.dry(2, 1), 0);
        due("on all days", x.dries(2, 200), 200);
    }

    private static void drySinceNow() {
        WellVillages x = Check.over("cell a 1 30;village v a 10=10;");
        for (int day = 0; day <= 3; day++) {
            due("dry on day " + day, x.dry(0, 9), 3 - day);
            due("dries on day " + day, x.dries(0, 9), 6 + day);
            x.run(1);
        }
        due("it is dry already", x.dry(0, 9), 0);
        due("days that were do not count", x.dries(0, 9), 9);
        x.run(9);
        due("days that were do not count", x.dries(0, 9), 9);
    }

    /** "SALTY by t (1 .. 9999) or more" */
    private static void saltyEdges() {
        WellVillages x = Check.over("cell a 1 0;river a 999 10 99;cell b 1 0;");
        due("9899", x.salty(0, 9899, 1), 1);
        due("9900", x.salty(0, 9900, 1), 1);
        due("9901", x.salty(0, 9901, 200), -2);
        due("9999", x.salty(0, 9999, 200), -2);
        due("1", x.salty(0, 1, 1), 1);
        due("no salt", x.salty(1, 1, 200), -2);
        x.run(1);
        x.pour(0, 1); // 9801 of salt; 99 of water come with as much again
        due("9999", x.salty(0, 9999, 1), 1);
        due("19602 at the end", x.cell(0, 4), 980100);
        // 1 of salt by 100 of water is 1; by 101 it is none
        x = Check.over("cell a 1 99;river a 199 1 1;");
        due("by 100", x.salty(0, 1, 1), 1);
        due("by 100", x.salty(0, 2, 1), -2);
        x = Check.over("cell a 1 100;river a 200 1 1;");
        due("by 101", x.salty(0, 1, 200), -2);
    }

    /** "How many days of n till .. at a day's end" */
    private static void saltyAtADaysEnd() {
        WellVillages x = Check.over("cell a 9 899;river a 999 1 9;");
        // 99 of level, 9 come each day, then 8 once the level is above 199: 9 days bring 81 * 9 by 980, and so on
        for (int n = 1; n <= 12; n++) {
            WellVillages y = Check.over("cell a 9 899;river a 999 1 9;");
            y.run(n);
            int then = y.cell(0, 4);
            due("till " + then, x.salty(0, then, n), n);
            due("not a day ahead", n == 1 ? -2 : x.salty(0, then, n - 1), -2);
        }
        WellVillages y = Check.over("cell a 1 0;river a 999 10 99;rain 0 99;village v a 0=day*50;");
        y.run(1);
        due("it is so now, but not at the next day's end", y.salty(0, 9900, 1), -2);
    }

    /** "1 a PASS is sealed": nothing at all flows over it. */
    private static void effectOfASealedPass() {
        WellVillages x = Check.over("cell a 1 9000;cell b 1 0;pass a b 10;");
        due("on the first cell", x.effect(1, 0, 0, 1), 900);
        due("on the second cell", x.effect(1, 0, 1, 1), -900);
        x = Check.over("cell a 1 9000;cell b 1 0;pass b a 10;pass a b 10;");
        due("only that pass", x.effect(1, 0, 0, 1), 900);
        due("only that pass", x.effect(1, 1, 1, 1), -900);
        // 9000, 8100, 7380 with the one that is left; 9000, 7200, 6120 with both
        due("in two days", x.effect(1, 0, 0, 2), 1260);
    }

    /** "2 a RIVER is dammed" */
    private static void effectOfADam() {
        WellVillages x = Check.over("cell a 1 0;cell b 1 500;river a 999 10 9;river b 0 10 0;village v a 9=9;");
        due("on its cell", x.effect(2, 0, 0, 1), -99);
        due("on another cell", x.effect(2, 0, 1, 1), 0);
        due("one that goes out", x.effect(2, 1, 1, 1), 50);
        due("saved", x.saved(2, 0, 0, 5), -4);
        due("saved by the other one", x.saved(2, 1, 0, 5), 0);
    }

    /** "0 a VILLAGE TAKES nothing" */
    private static void effectOfARest() {
        WellVillages x = Check.over("cell a 3 100;village v a 0=31;village w a 0=900;");
        due("w takes all the rest", x.effect(0, 0, 0, 1), 0);
        due("without w", x.effect(0, 1, 0, 1), 23); // 69 by 3
        due("n 200", x.effect(0, 1, 0, 200), 0);
    }

    /** "(below 0: more)" */
    private static void savedMoreAndLess() {
        WellVillages x = Check.over("cell a 1 100;cell b 1 0;pass a b 10;village u a 1=20;village v b 5=5;village w a 5=30;");
        // with all: a 100, 45, 0; b 0, 5, 0; without u: a 100, 63, 30, 0; b 0, 7, 5, 0; sealed: b 0
        int[] dries = {2, 3, 2};
        for (int v = 0; v < 3; v++) {
            due("dries(" + v + ", 4)", x.dries(v, 4), dries[v]);
        }
        due("u's rest saves w one day", x.saved(0, 0, 2, 4), 1);
        due("u's rest saves v one day", x.saved(0, 0, 1, 4), 1);
        due("v's rest saves no one", x.saved(0, 1, 0, 4), 0);
        due("the seal costs v one day", x.saved(1, 0, 1, 4), -1);
        due("the seal costs w none", x.saved(1, 0, 2, 4), 0);
        due("nothing is changed by what takes nothing", Check.over(TWO + "village z b 0=0;").saved(0, 2, 0, 50), 0);
    }

    /** saved: "no such ones, the VILLAGE itself": only a village is itself, a pass or a river of its number is not. */
    private static void savedItself() {
        WellVillages x = Check.over(TWO);
        for (int v = 0; v <= 1; v++) {
            due("saved(0, " + v + ", " + v + ", 9)", x.saved(0, v, v, 9), NOT);
            due("a pass of its number", x.saved(1, v, v, 1) == NOT ? 1 : 0, 0);
        }
        due("a river of its number", x.saved(2, 0, 0, 1) == NOT ? 1 : 0, 0);
    }

    /** "(and is not looked at as DRY)": who rests does not count as dry for anyone. */
    private static void restIsNotLookedAt() {
        WellVillages x = Check.over("cell a 1 10;village u a 10=10;village v a 10=10;");
        due("shut", x.shut(1, 1), 1);
        due("saved", x.saved(0, 0, 1, 1), 1);
        due("of three days", x.saved(0, 0, 1, 3), 1);
    }

    /** "the greatest x (0 .. 99) .. each TAKES x on each of n days"; "NONE: no such n, no VILLAGES" */
    private static void fairestEdges() {
        for (int water : new int[] {0, 1, 50, 98, 99, 100, 9999}) {
            due("one village, " + water, Check.over("cell a 1 " + water + ";village v a 9=0;").fairest(1), Math.min(99, water));
        }
        String two = ";village v a 0=0;village w a 0=0;";
        due("two villages, 197", Check.over("cell a 1 197" + two).fairest(1), 98);
        due("two villages, 198", Check.over("cell a 1 198" + two).fairest(1), 99);
        due("two villages, 1", Check.over("cell a 1 1" + two).fairest(1), 0);
        due("two days, 197", Check.over("cell a 1 197;village v a 0=0;").fairest(2), 98);
        due("two days, 198", Check.over("cell a 1 198;village v a 0=0;").fairest(2), 99);
        due("of two cells the poorer one", Check.over("cell a 1 80;cell b 1 7;village v a 0=0;village w b 0=0;").fairest(1), 7);
        due("no villages", Check.over("cell a 1 100;").fairest(1), -1);
        due("with rain", Check.over("cell a 1 0;rain 5;village v a 0=0;").fairest(200), 5);
    }

    private static void fairestInsteadOfLaws() {
        WellVillages x = Check.over("cell a 1 60;village v a 99=9999;village w a 99=1/0;");
        due("laws and needs do not count", x.fairest(1), 30);
        due("laws do not count for a share", x.share(1), 31); // 30 and 30: 99 * 31 by 100 is 30
    }

    /** "it TAKES x and no other one is DRY on any of n days" */
    private static void mostEdges() {
        for (int water : new int[] {0, 1, 98, 99, 100, 9999}) {
            due("alone, " + water, Check.over("cell a 1 " + water + ";village v a 99=0;").most(0, 1), Math.min(99, water));
        }
        String text = "cell a 1 50;village u a 30=0;village v a 10=10;";
        due("the other needs 10 behind it", Check.over(text).most(0, 1), 40);
        due("on two days", Check.over(text).most(0, 2), 15);
        due("on five days", Check.over(text).most(0, 5), 0);
        due("on six days", Check.over(text).most(0, 6), -2);
        due("ahead of it", Check.over("cell a 1 50;village v a 10=10;village u a 30=0;").most(1, 1), 40);
        due("the others by their laws", Check.over("cell a 1 50;village v a 10=45;village u a 30=0;").most(1, 1), 5);
    }

    /** "-2 if no x does" */
    private static void mostOfNone() {
        WellVillages x = Check.over("cell a 1 50;village u a 1=0;village v a 10=9;village w a 0=0;");
        due("another one is dry anyway", x.most(0, 1), -2);
        due("so it is for the one without a need", x.most(2, 1), -2);
        due("the first is dry by its own law", x.most(1, 1), -2);
        due("only itself is dry", Check.over("cell a 1 0;village v a 99=0;").most(0, 200), 0);
    }

    /** "(of one day the least number); -2: none; NONE: no such n" */
    private static void firstOfEdges() {
        WellVillages x = Check.over("cell a 1 10;cell b 1 20;village t a 0=0;village u b 10=10;village v a 5=5;village w a 5=5;");
        due("none yet", x.firstOf(1), -2);
        due("v and w on day 1", x.firstOf(2), 2);
        due("u is dry only on day 2", x.firstOf(3), 2);
        x.run(2);
        due("all are on the next day", x.firstOf(1), 1);
        due("none with villages that need nothing", Check.over("cell a 1 0;village v a 0=5;").firstOf(200), -2);
    }

    /** "the greatest p (0 .. 100)" */
    private static void shareEdges() {
        due("all", Check.over("cell a 1 99;village v a 99=0;").share(1), 100);
        due("plenty", Check.over("cell a 1 9999;village v a 99=0;village w a 99=0;").share(50), 100);
        due("no need", Check.over("cell a 1 0;village v a 0=99;").share(200), 100);
        due("nothing: 99 times 1 by 100 is 0", Check.over("cell a 1 0;village v a 99=9;").share(200), 1);
        due("nothing: 50 times 1 by 100 is 0", Check.over("cell a 1 0;village v a 50=9;").share(1), 1);
        due("nothing: 49 times 2 by 100 is 0", Check.over("cell a 1 0;village v a 49=9;").share(1), 2);
        due("nothing: 1 times 99 by 100 is 0", Check.over("cell a 1 0;village v a 1=9;").share(1), 99);
        due("no villages", Check.over("cell a 1 100;").share(1), -1);
    }

    private static void shareRoundedDown() {
        due("98 of 99", Check.over("cell a 1 98;village v a 99=0;").share(1), 99);
        due("97 of 99", Check.over("cell a 1 97;village v a 99=0;").share(1), 98);
        due("49 of 50", Check.over("cell a 1 49;village v a 50=0;").share(1), 99);
        due("48 of 50", Check.over("cell a 1 48;village v a 50=0;").share(1), 97);
        due("each by its own need", Check.over("cell a 1 30;village v a 40=0;village w a 20=0;").share(1), 52); // 20 and 10
    }

    /** "the VILLAGES (bits); -2: it can't be" */
    private static void shutEdges() {
        WellVillages x = Check.over("cell a 1 20;cell b 1 5;village u a 10=15;village v a 10=10;village w b 6=6;village z b 0=9;");
        due("none must", x.shut(0, 1), 0);
        due("one that takes ahead", x.shut(1, 1), 1);
        due("its own cell is too poor", x.shut(2, 1), -2);
        due("who needs nothing", x.shut(3, 200), 0);
        due("alone", Check.over("cell a 1 5;village v a 6=6;").shut(0, 1), -2);
        due("alone", Check.over("cell a 1 6;village v a 6=6;").shut(0, 1), 0);
        due("by its own law", Check.over("cell a 1 60;village v a 6=5;village w a 0=0;").shut(0, 1), -2);
    }

    /** "the fewest others that must TAKE nothing ..; of alike ones the least bits" */
    private static void shutFewest() {
        StringBuilder text = new StringBuilder("cell a 1 99;");
        for (int i = 0; i < 5; i++) {
            text.append("village v").append((char) ('a' + i)).append(" a 0=1;");
        }
        due("all five others", Check.over(text + "village w a 99=99;").shut(5, 1), 31);
        due("four of five, the least bits", Check.over(text + "village w a 98=98;").shut(5, 1), 15);
        due("one of five, the least bits", Check.over(text + "village w a 95=95;").shut(5, 1), 1);
        due("none", Check.over(text + "village w a 94=94;").shut(5, 1), 0);
        String ahead = "cell a 1 99;village w a 50=50;";
        due("behind it they don't matter", Check.over(ahead + text.substring(12)).shut(0, 1), 0);
        due("but on the next day", Check.over(ahead + text.substring(12)).shut(0, 2), -2);
        String big = "cell a 1 100;village t a 0=10;village u a 0=10;village v a 0=25;village w a 80=80;";
        due("one of high bits rather than two of low ones", Check.over(big).shut(3, 1), 4);
    }

    /** "what 0 RAIN, 1 TAKEN, 2 RIVERS, 3 how much more WATER there is then" */
    private static void balanceEdges() {
        WellVillages x = Check.over("cell a 1 500;cell b 2 0;pass a b 10;river a 0 10 0;river b 300 9 7;rain 3 0 8;"
            + "village v a 9=30-day;village w b 0=day/2;");
        x.run(4);
        for (int n : new int[] {1, 2, 7, 50, 200}) {
            int more = x.balance(n, 0) - x.balance(n, 1) + x.balance(n, 2);
            due("balance of " + n, x.balance(n, 3), more);
        }
        due("rain of day 4", x.balance(1, 0), 0);
        due("rain of days 4 and 5", x.balance(2, 0), 16);
        due("rain of days 4 to 6", x.balance(3, 0), 22);
        due("rain of 200 days", x.balance(200, 0), 2 * (66 * 11 + 0 + 8));
        x = Check.over("cell a 1 0;rain 99;village v a 0=9999;");
        due("all rain is taken", x.balance(200, 1), 200 * 99);
        due("no more water", x.balance(200, 3), 0);
        due("no rivers", x.balance(200, 2), 0);
        x = Check.over("cell a 1 100;river a 0 10 0;");
        due("what flows out", x.balance(1, 2), -10);
        due("less water", x.balance(1, 3), -10);
    }

    /** "how many bodies of water there are (CELLS joined by PASSES)" */
    private static void partsEdges() {
        due("no cells", Check.over("rain 1;").parts(), 0);
        due("one cell", Check.over("cell a 1 1;river a 1 1 1;").parts(), 1);
        StringBuilder twelve = new StringBuilder();
        for (int i = 0; i < 12; i++) {
            twelve.append("cell ").append((char) ('a' + i)).append(" 1 1;");
        }
        due("twelve apart", Check.over(twelve.toString()).parts(), 12);
        due("no bridges", Check.over(twelve.toString()).bridges(), 0);
        due("the last two joined", Check.over(twelve + "pass l k 1;").parts(), 11);
        due("the first and the last joined", Check.over(twelve + "pass a l 1;").parts(), 11);
    }

    /** "PASSES without which there are more": up to the 20th. */
    private static void bridgesEdges() {
        String cells = "cell a 1 1;cell b 1 1;cell c 1 1;cell d 1 1;cell e 1 1;cell f 1 1;";
        String passes = "pass a b 1;".repeat(7) + "pass c d 1;".repeat(6) + "pass e f 1;".repeat(5) + "pass c a 1;pass c e 1;";
        WellVillages x = Check.over(cells + passes);
        due("parts", x.parts(), 1);
        due("the 19th and the 20th", x.bridges(), 3 << 18);
        x = Check.over(cells + "pass a b 1;pass c d 1;pass d c 1;");
        due("one that joins two alone", x.bridges(), 1);
        due("parts", x.parts(), 4);
        x = Check.over(cells + "pass a b 1;pass b c 1;pass c d 1;pass d e 1;pass e f 1;");
        due("a chain", x.bridges(), 31);
        x = Check.over(cells + "pass a b 1;pass b c 1;pass c d 1;pass d e 1;pass e f 1;pass f a 1;");
        due("a ring", x.bridges(), 0);
    }

    /** "WORTH of a set of VILLAGES (bits) for one; NONE: no such ones." */
    private static void worthSets() {
        WellVillages one = Check.over("cell a 1 1;village v a 1=1;");
        due("none of one", one.worth(0, 0, 2), 0);
        due("all of one", one.worth(0, 1, 2), 1);
        due("set 2 of one", one.worth(0, 2, 2), -1);
        due("set -1", one.worth(0, -1, 2), -1);
        StringBuilder text = new StringBuilder("cell a 1 5;");
        for (int i = 0; i < 6; i++) {
            text.append("village v").append((char) ('a' + i)).append(" a 1=1;");
        }
        WellVillages six = Check.over(text.toString());
        due("all of six", six.worth(5, 63, 1), 1);
        due("all but one", six.worth(5, 62, 1), 0);
        due("set 64", six.worth(5, 64, 1), -1);
        due("set 63 + 64", six.worth(5, 127, 1), -1);
        due("least int", six.worth(5, Integer.MIN_VALUE, 1), -1);
        due("no villages", Check.over("cell a 1 1;").worth(0, 0, 1), -1);
    }

    /** "(v, if it is not in the set, TAKES nothing, but is DRY if its CELL has less than its NEED when it would be its turn)" */
    private static void worthAtItsTurn() {
        for (int water = 8; water <= 10; water++) {
            WellVillages x = Check.over("cell a 1 " + water + ";village v a 9=0;");
            due("not in the set, " + water, x.worth(0, 0, 3), water < 9 ? 3 : 0);
            due("in the set, by its law, " + water, x.worth(0, 1, 3), 3);
        }
        due("a need of 99, 99", Check.over("cell a 1 99;village v a 99=0;").worth(0, 0, 200), 0);
        due("a need of 99, 98", Check.over("cell a 1 98;village v a 99=0;").worth(0, 0, 200), 200);
        due("the rain has come", Check.over("cell a 1 0;rain 9;village v a 9=0;").worth(0, 0, 1), 0);
        WellVillages x = Check.over("cell a 1 10;village u a 0=2;village v a 9=0;village w a 0=2;");
        due("who takes ahead of it", x.worth(1, 1, 1), 1);
        due("who takes behind it", x.worth(1, 4, 1), 0);
        due("who took behind it the day ahead", x.worth(1, 4, 2), 1);
        due("it takes nothing itself", Check.over("cell a 1 10;village v a 9=9;").worth(0, 0, 5), 0);
    }

    /** "as a number of parts, as many of which are 1 as there are orders": of one village there is one. */
    private static void blameOfOne() {
        due("by its own law", Check.over("cell a 1 9;village v a 5=4;").blame(0, 0, 10), 10);
        due("by its own taking", Check.over("cell a 1 9;village v a 5=5;").blame(0, 0, 10), 9);
        due("by none", Check.over("cell a 1 4;village v a 5=5;").blame(0, 0, 10), 0);
    }

    private static void blameOfThree() {
        WellVillages x = Check.over("cell a 1 10;village t a 0=5;village u a 0=5;village v a 10=10;");
        due("one half", x.blame(2, 0, 1), 3);
        due("one half", x.blame(2, 1, 1), 3);
        due("itself", x.blame(2, 2, 1), 0);
        x = Check.over("cell a 1 10;village t a 0=2;village u a 0=5;village v a 6=6;");
        // dry with u: 5 are left; t alone leaves 8, and both 3
        due("t", x.blame(2, 0, 1), 0);
        due("u", x.blame(2, 1, 1), 6);
        x = Check.over("cell a 1 10;village t a 0=2;village u a 0=3;village v a 6=6;");
        // dry only with both: each has the blame in the orders in which it is the later one
        due("t", x.blame(2, 0, 1), 3);
        due("u", x.blame(2, 1, 1), 3);
        due("v", x.blame(2, 2, 1), 0);
    }

    /** One whose taking lets another one take more: its blame is below 0. */
    private static void blameBelowZero() {
        WellVillages x = Check.over("cell a 1 100;cell b 1 9999;village u a 0=100;village v b 10=10-at a/10;");
        due("worth of v", x.worth(1, 2, 8), 8);
        due("worth of both", x.worth(1, 3, 8), 7);
        due("of u", x.blame(1, 0, 8), -1);
        due("of v", x.blame(1, 1, 8), 15);
        due("for u", x.blame(0, 1, 8), 0);
    }

    /** "All BLAMES add to WORTH of all less that of none." */
    private static void blamesAddUp() {
        String[] villages = {"village p a 9=20;", "village q b 9=seen/3;", "village r a 12=took+5;", "village s b 10=13;",
            "village t a 5=9-dry;", "village u a 3=day;"};
        int[] orders = {1, 1, 2, 6, 24, 120, 720};
        StringBuilder text = new StringBuilder("cell a 1 90;cell b 1 70;pass a b 10;rain 0 9 1;");
        for (int all = 1; all <= 6; all++) {
            text.append(villages[all - 1]);
            WellVillages x = Check.over(text.toString());
            for (int v = 0; v < all; v++) {
                long sum = 0;
                for (int u = 0; u < all; u++) {
                    sum += x.blame(v, u, 40);
                }
                long worth = x.worth(v, (1 << all) - 1, 40) - x.worth(v, 0, 40);
                due(all + " villages, for " + v, sum, orders[all] * worth);
            }
        }
    }

    /** As many villages as there can be, none of which is dry. */
    private static void sixVillages() {
        StringBuilder text = new StringBuilder("cell a 1 9999;");
        for (int i = 0; i < 6; i++) {
            text.append("village v").append((char) ('a' + i)).append(" a 1=1;");
        }
        WellVillages x = Check.over(text.toString());
        due("firstOf(200)", x.firstOf(200), -2);
        due("fairest(200)", x.fairest(200), 8); // 6 * 8 * 200
        due("share(200)", x.share(200), 100);
        for (int v = 0; v < 6; v++) {
            due("most(" + v + ", 1)", x.most(v, 1), 99);
            due("most(" + v + ", 200)", x.most(v, 200), 44); // 200 * (5 + 44)
            due("shut(" + v + ", 200)", x.shut(v, 200), 0);
            due("worth(" + v + ", 63, 200)", x.worth(v, 63, 200), 0);
            due("blame(" + v + ", 0, 200)", x.blame(v, 0, 200), 0);
        }
        due("balance(200, 1)", x.balance(200, 1), 1200);
    }

    private static void nothingHappens() {
        WellVillages x = Check.over(TWO);
        x.run(5);
        x.tell(3, 0, 4);
        x.hold(1);
        Check.put(x, "rain");
        String was = State.withTape(x);
        x.dry(0, 200);
        x.dries(0, 200);
        x.salty(1, 9999, 200);
        x.effect(0, 0, 0, 200);
        x.effect(1, 0, 0, 200);
        x.effect(2, 0, 0, 200);
        x.saved(0, 1, 0, 200);
        x.saved(1, 1, 0, 200);
        x.saved(2, 0, 0, 200);
        x.fairest(200);
        x.most(0, 200);
        x.firstOf(200);
        x.share(200);
        x.shut(1, 200);
        x.balance(200, 2);
        x.parts();
        x.bridges();
        x.worth(0, 1, 200);
        x.blame(0, 1, 200);
        due("nothing happened", State.withTape(x), was);
    }
}
