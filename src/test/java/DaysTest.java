/** Promises 6 to 11 and 35 to 37: what is, what happens by days, and what is held. */
public final class DaysTest {
    private static final Check CHECK = new Check("DaysTest");

    public static void main(String[] args) {
        levels();
        mondays();
        rain();
        laws();
        turns();
        dryDays();
        passes();
        rivers();
        saltTaken();
        saltFlows();
        saltyAtMost();
        runs();
        pours();
        slots();
        counts();
        CHECK.end();
    }

    private static void due(String call, long got, long want) {
        CHECK.due(call, got, want);
    }

    private static void due(String call, boolean got, boolean want) {
        CHECK.due(call, got, want);
    }

    private static void levels() {
        WellVillages x = Check.over("cell a 3 100;cell b 9 8;cell c 1 0;");
        due("cell(0, 0)", x.cell(0, 0), 100);
        due("cell(0, 1)", x.cell(0, 1), 33);
        due("cell(1, 1)", x.cell(1, 1), 0);
        due("cell(2, 1)", x.cell(2, 1), 0);
        due("cell(2, 4)", x.cell(2, 4), 0);
        due("cell(1, 5)", x.cell(1, 5), 9);
        due("cell(1, 6)", x.cell(1, 6), 0);
        for (int bad : new int[] {-1, 3, 12, Integer.MAX_VALUE, Integer.MIN_VALUE}) {
            due("cell(" + bad + ", 0)", x.cell(bad, 0), -1);
        }
        for (int bad : new int[] {-1, 7, Integer.MAX_VALUE, Integer.MIN_VALUE}) {
            due("cell(0, " + bad + ")", x.cell(0, bad), -1);
        }
    }

    private static void mondays() {
        WellVillages x = Check.over("cell a 1 100;village v a 0=seen/10;village w a 0=at a;");
        due("cell(0, 2)", x.cell(0, 2), 0);
        due("want(0)", x.want(0), 10);
        due("cell(0, 2) behind want", x.cell(0, 2), 0);
        x.run(1);
        due("cell(0, 2)", x.cell(0, 2), 100);
        due("cell(0, 0)", x.cell(0, 0), 0); // 10, then 90 of 100
        due("want(1)", x.want(1), 100);
        x.pour(0, 70);
        due("want(0)", x.want(0), 10);
        x.run(6);
        due("cell(0, 2)", x.cell(0, 2), 100);
        x.pour(0, 70);
        due("want(0) on a monday", x.want(0), 7);
        due("cell(0, 2) ahead of it", x.cell(0, 2), 100);
        x.run(1);
        due("cell(0, 2)", x.cell(0, 2), 70);
    }

    private static void rain() {
        WellVillages x = Check.over("rain 9;cell a 1 0;cell b 2 0;rain 1 0 5;village v a 0=today;");
        due("count(5)", x.count(5), 3);
        due("want(0)", x.want(0), 1);
        x.run(1);
        due("cell(0, 0)", x.cell(0, 0), 0); // the rain was taken
        due("cell(1, 0)", x.cell(1, 0), 1);
        due("want(0)", x.want(0), 0);
        x.run(2);
        due("village(0, 0)", x.village(0, 0), 5);
        due("cell(1, 0)", x.cell(1, 0), 6);
        x.run(1);
        due("cell(1, 0)", x.cell(1, 0), 7);
        x = Check.over("cell a 1 4;rain 9 9;rain;");
        due("count(5)", x.count(5), 0);
        x.run(3);
        due("cell(0, 0)", x.cell(0, 0), 4);
    }

    private static long wants(String law) {
        return Check.over("cell a 1 50;cell b 1 7;rain 3;village v a 0=" + law + ";").want(0);
    }

    private static void laws() {
        due("2+3*4", wants("2+3*4"), 14);
        due("(2+3)*4", wants("(2+3)*4"), 20);
        due("20-5-4", wants("20-5-4"), 11);
        due("100/7/3", wants("100/7/3"), 4);
        due("100*3/7", wants("100*3/7"), 42);
        due("2*3-10", wants("2*3-10"), 0);
        due("100-(0-9)/2*10", wants("100-(0-9)/2*10"), 140);
        due("9999", wants("9999"), 999);
        due("1000", wants("1000"), 999);
        due("999", wants("999"), 999);
        due("5+1/0", wants("5+1/0"), 0);
        due("5+0/(3-3)*0", wants("5+0/(3-3)*0"), 0);
        due("9999*9999*9999", wants("9999*9999*9999"), 0); // wraps to -1027349969
        due("9999*9999*9999*9999/10000000", wants("9999*9999*9999*9999/1000/1000/10"), wrapped());
        due("least by -1", wants("(0-8192*4096*32*2)/(0-1)"), 0);
        due("least less 1", wants("0-8192*4096*32*2-1-8192*4096*32*2+6"), 5);
        due("seen", wants("seen"), 50);
        due("at b", wants("at b"), 7);
        due("at b*at a", wants("at b*at a"), 350);
        due("day", wants("day"), 0);
        due("today", wants("today"), 3);
        due("took", wants("took"), 0);
        due("dry", wants("dry"), 0);
        due("(((((seen))))))", wants("1-(2-(3-(4-(5-(6-seen)))))"), 47);
        due("all that can be open at once", wants("1+2*(1+2*(1+2*(1+2*(1+2*(1+2*(1+2*3))))))"), 511);
        WellVillages x = Check.over("cell a 1 500;village v a 9=day*2;village w a 0=took+1;village u a 7=dry;");
        due("want(-1)", x.want(-1), -1);
        due("want(3)", x.want(3), -1);
        x.run(5);
        due("want(0)", x.want(0), 10);
        due("want(1)", x.want(1), 6);
        due("want(2)", x.want(2), 5);
        due("village(0, 1)", x.village(0, 1), 5);
        due("village(0, 5)", x.village(0, 5), 20);
        due("village(1, 5)", x.village(1, 5), 15);
        x.run(4);
        due("want(2)", x.want(2), 7); // not dry any more once it takes 7
    }

    private static int wrapped() {
        return Math.max(0, Math.min(999, 9999 * 9999 * 9999 * 9999 / 1000 / 1000 / 10));
    }

    private static void turns() {
        WellVillages x = Check.over("cell a 1 30;cell b 1 5;village u a 20=20;village v a 10=20;village w b 6=9;");
        x.run(1);
        due("village(0, 0)", x.village(0, 0), 20);
        due("village(1, 0)", x.village(1, 0), 10);
        due("village(1, 1)", x.village(1, 1), 0);
        due("village(2, 0)", x.village(2, 0), 5);
        due("village(2, 1)", x.village(2, 1), 1);
        due("village(2, 3)", x.village(2, 3), 1);
        due("village(2, 4)", x.village(2, 4), 6);
        due("count(9)", x.count(9), 0);
        for (int bad : new int[] {-1, 3, 6, Integer.MAX_VALUE, Integer.MIN_VALUE}) {
            due("village(" + bad + ", 0)", x.village(bad, 0), -1);
        }
        for (int bad : new int[] {-1, 6, Integer.MAX_VALUE, Integer.MIN_VALUE}) {
            due("village(0, " + bad + ")", x.village(0, bad), -1);
        }
    }

    private static void dryDays() {
        WellVillages x = Check.over("cell a 1 100;village v a 10=30;village w a 0=0;");
        x.run(4);
        due("village(0, 0)", x.village(0, 0), 10);
        due("village(0, 1)", x.village(0, 1), 0);
        due("village(0, 2)", x.village(0, 2), -2);
        x.run(3);
        due("village(0, 0)", x.village(0, 0), 0);
        due("village(0, 1)", x.village(0, 1), 3);
        due("village(0, 2)", x.village(0, 2), 4);
        due("village(0, 5)", x.village(0, 5), 100);
        due("village(1, 1)", x.village(1, 1), 0);
    }

    private static void passes() {
        WellVillages x = Check.over("cell a 1 100;cell b 2 0;cell c 1 100;pass a b 10;pass b c 9;pass c a 1;");
        due("flow(0, false)", x.flow(0, false), 10);
        due("flow(1, false)", x.flow(1, false), -9);
        due("flow(2, false)", x.flow(2, false), 0);
        x.run(1);
        due("cell(0, 0)", x.cell(0, 0), 90);
        due("cell(1, 0)", x.cell(1, 0), 19);
        due("cell(2, 0)", x.cell(2, 0), 91);
        due("flow(0, false)", x.flow(0, false), 8); // 81 * 10
        due("flow(1, false)", x.flow(1, false), -7); // -82 * 9, towards 0
        due("flow(2, false)", x.flow(2, false), 0);
        for (int bad : new int[] {-1, 3, 20, Integer.MAX_VALUE, Integer.MIN_VALUE}) {
            due("flow(" + bad + ", false)", x.flow(bad, false), -1000000);
        }
        due("flow(0, true)", x.flow(0, true), -1000000);
        x = Check.over("cell a 1 100;cell b 1 0;pass a b 10;rain 7;village v a 0=60;");
        due("flow behind rain and villages", x.flow(0, false), 4); // 47 less 7
        due("flow leaves all as it was", x.cell(0, 0), 100);
    }

    private static void rivers() {
        WellVillages x = Check.over("cell a 2 100;river a 155 3 0;river a 0 3 7;village v a 0=20;");
        due("flow(0, true)", x.flow(0, true), 3); // 115 * 3 by 100
        due("flow(1, true)", x.flow(1, true), -1); // -40 * 3 by 100
        due("flow(2, true)", x.flow(2, true), -1000000);
        due("flow(-1, true)", x.flow(-1, true), -1000000);
        due("flow(0, false)", x.flow(0, false), -1000000);
        x.run(1);
        due("cell(0, 0)", x.cell(0, 0), 82);
        due("cell(0, 3)", x.cell(0, 3), 0);
        due("cell(0, 6)", x.cell(0, 6), 2);
    }

    private static void saltTaken() {
        WellVillages x = Check.over("cell a 1 0;river a 100 10 7;village v a 0=day*3;village w a 0=day*2;");
        x.run(1);
        due("cell(0, 0)", x.cell(0, 0), 10);
        due("cell(0, 3)", x.cell(0, 3), 70);
        due("cell(0, 4)", x.cell(0, 4), 700);
        x.pour(0, 11);
        due("cell(0, 3) behind pour", x.cell(0, 3), 70);
        due("cell(0, 4)", x.cell(0, 4), 636);
        x.run(1);
        // 3 of 11 take 19 of 70 (51 of 8), 2 of 8 take 12 of 51 (39 of 6); 94 * 10 by 100 bring 9 * 7
        due("cell(0, 0)", x.cell(0, 0), 15);
        due("cell(0, 3)", x.cell(0, 3), 102);
        x.pour(0, 0);
        due("cell(0, 3)", x.cell(0, 3), 102);
        due("cell(0, 4) without water", x.cell(0, 4), 0);
    }

    private static void saltFlows() {
        WellVillages x = Check.over("cell a 1 0;cell b 1 0;cell c 1 0;river a 990 10 10;pass a b 10;pass c a 10;"
            + "river a 0 10 0;");
        x.run(1);
        due("cell(0, 0)", x.cell(0, 0), 99);
        due("cell(0, 3)", x.cell(0, 3), 990);
        x.pour(0, 113);
        x.run(1);
        // 11 each flow over both passes and by the second river, with 990 * 11 by 113: 96; 87 come with 870
        due("cell(0, 0)", x.cell(0, 0), 113 - 33 + 87);
        due("cell(0, 3)", x.cell(0, 3), 990 - 3 * 96 + 870);
        due("cell(1, 0)", x.cell(1, 0), 11);
        due("cell(1, 3)", x.cell(1, 3), 96);
        due("cell(2, 3)", x.cell(2, 3), 96);
        due("cell(2, 4)", x.cell(2, 4), 872);
    }

    private static void saltyAtMost() {
        WellVillages x = Check.over("cell a 9 0;river a 999 10 99;");
        for (int i = 0; i < 20 && x.cell(0, 3) <= 10000000; i++) {
            x.pour(0, 0);
            x.run(400);
        }
        due("more salt than 10000000", x.cell(0, 3) > 10000000, true);
        x.pour(0, 1);
        due("cell(0, 4)", x.cell(0, 4), 1000000000);
        x.pour(0, 9999);
        due("cell(0, 4)", x.cell(0, 4), (long) x.cell(0, 3) * 100 / 9999);
    }

    private static void runs() {
        WellVillages x = Check.over("cell a 1 0;rain 1;");
        due("run(0)", x.run(0), 0);
        due("run(-1)", x.run(-1), -1);
        due("run(401)", x.run(401), -1);
        due("run(least)", x.run(Integer.MIN_VALUE), -1);
        due("cell(0, 0)", x.cell(0, 0), 0);
        due("run(400)", x.run(400), 400);
        due("run(1)", x.run(1), 401);
        due("cell(0, 0)", x.cell(0, 0), 401);
    }

    private static void pours() {
        WellVillages x = Check.over("cell a 2 5;");
        due("pour(0, 9999)", x.pour(0, 9999), true);
        due("cell(0, 1)", x.cell(0, 1), 4999);
        due("pour(0, 10000)", x.pour(0, 10000), false);
        due("pour(0, -1)", x.pour(0, -1), false);
        due("pour(1, 5)", x.pour(1, 5), false);
        due("pour(-1, 5)", x.pour(-1, 5), false);
        due("cell(0, 0)", x.cell(0, 0), 9999);
        due("pour(0, 0)", x.pour(0, 0), true);
        due("cell(0, 0)", x.cell(0, 0), 0);
    }

    private static void slots() {
        WellVillages x = Check.over("cell a 1 30;river a 300 10 5;village v a 40=took+9;");
        due("restore(0)", x.restore(0), false);
        x.run(8);
        int[] was = all(x);
        due("hold(2)", x.hold(2), true);
        due("hold(3)", x.hold(3), false);
        due("hold(-1)", x.hold(-1), false);
        due("count(8)", x.count(8), 1);
        due("all stays", same(was, all(x)), true);
        x.run(30);
        x.pour(0, 3);
        x.tell(4, 0, 4);
        due("all has changed", same(was, all(x)), false);
        due("restore(1)", x.restore(1), false);
        due("restore(3)", x.restore(3), false);
        due("restore(-1)", x.restore(-1), false);
        due("all has changed", same(was, all(x)), false);
        due("restore(2)", x.restore(2), true);
        due("all is back", same(was, all(x)), true);
        due("count(6)", x.count(6), 1);
        x.run(3);
        int[] three = all(x);
        due("restore(2) again", x.restore(2), true);
        due("all is back", same(was, all(x)), true);
        x.run(3);
        due("it goes on alike", same(three, all(x)), true);
        due("hold(2)", x.hold(2), true);
        x.run(1);
        due("restore(2)", x.restore(2), true);
        due("the later one is held", same(three, all(x)), true);
        x.hold(0);
        x.hold(1);
        due("count(8)", x.count(8), 3);
    }

    private static int[] all(WellVillages x) {
        return new int[] {x.count(4), x.cell(0, 0), x.cell(0, 2), x.cell(0, 3), x.village(0, 0), x.village(0, 1),
            x.village(0, 2), x.village(0, 5), x.want(0)};
    }

    private static boolean same(int[] a, int[] b) {
        return java.util.Arrays.equals(a, b);
    }

    private static void counts() {
        WellVillages x = Check.over("cell a 1 30;cell b 2 12;pass a b 1;river a 300 10 5;river b 1 1 1;"
            + "village v a 40=9;rain 1 2 3 4;");
        x.tell(0, 0, 0);
        x.feed(1, 2, 3, 4, 5);
        x.hold(0);
        int[] due = {2, 1, 2, 1, 0, 4, 1, 20, 1, 42};
        for (int what = 0; what < due.length; what++) {
            due("count(" + what + ")", x.count(what), due[what]);
        }
        due("count(-1)", x.count(-1), -1);
        due("count(10)", x.count(10), -1);
        due("count(most)", x.count(Integer.MAX_VALUE), -1);
    }
}
