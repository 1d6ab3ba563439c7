/** Promises 27 to 34: levels that were told, and what fits them. */
public final class EvidenceTest {
    private static final Check CHECK = new Check("EvidenceTest");

    public static void main(String[] args) {
        told();
        off();
        span();
        spanWithGaps();
        rainSpan();
        pairs();
        test();
        hidden();
        hiddenByTheLeast();
        hiddenBehindVillages();
        fromTheBeginOfTheText();
        CHECK.end();
    }

    private static void due(String call, long got, long want) {
        CHECK.due(call, got, want);
    }

    private static void told() {
        WellVillages x = Check.over("cell a 1 100;cell b 1 0;");
        due("tell(-1, 0, 0)", x.tell(-1, 0, 0), -1);
        due("tell(200, 0, 0)", x.tell(200, 0, 0), -1);
        due("tell(0, 2, 0)", x.tell(0, 2, 0), -1);
        due("tell(0, -1, 0)", x.tell(0, -1, 0), -1);
        due("tell(0, 0, -1)", x.tell(0, 0, -1), -1);
        due("tell(0, 0, 10000)", x.tell(0, 0, 10000), -1);
        due("count(6)", x.count(6), 0);
        due("tell(199, 1, 9999)", x.tell(199, 1, 9999), 0);
        for (int i = 1; i < 20; i++) {
            due("tell " + i, x.tell(0, 0, 100), i);
        }
        due("tell 20", x.tell(0, 0, 100), -1);
        due("count(6)", x.count(6), 20);
        due("off(20)", x.off(20), 0);
        due("off(21)", x.off(21), -1);
        due("forget()", x.forget(), 20);
        due("forget()", x.forget(), 0);
        due("off(0)", x.off(0), -2);
        due("off(1)", x.off(1), -1);
        due("tell(0, 0, 1)", x.tell(0, 0, 1), 0);
    }

    private static void off() {
        WellVillages x = Check.over("cell a 1 100;cell b 1 0;pass a b 10;"); // 90 10, 82 18, 76 24
        x.tell(3, 0, 76);
        x.tell(2, 1, 18);
        x.tell(3, 1, 25);
        x.tell(1, 0, 91);
        due("off(-1)", x.off(-1), -1);
        due("off(0)", x.off(0), -2);
        due("off(1)", x.off(1), -2);
        due("off(2)", x.off(2), -2);
        due("off(3)", x.off(3), 2);
        due("off(4), by its number, not its day", x.off(4), 2);
        due("off(5)", x.off(5), -1);
    }

    private static void span() {
        WellVillages x = Check.over("cell a 9 900;cell b 9 0;pass a b 10;pass b a 3;");
        x.tell(1, 1, 1); // 9 to 17 have come, 3 of them by the second
        due("span(0, 0)", x.span(0, 0), 10);
        due("span(0, 1)", x.span(0, 1), 610);
        due("span(1, 1)", x.span(1, 1), 7);
        x.tell(1, 1, 2);
        due("span(0, 2)", x.span(0, 2), -2);
        due("span(0, 1)", x.span(0, 1), 610);
        due("span(0, 3)", x.span(0, 3), -1);
        due("span(0, -1)", x.span(0, -1), -1);
        due("span(2, 0)", x.span(2, 0), -1);
        due("span(-1, 0)", x.span(-1, 0), -1);
        x = Check.over("cell a 1 100;cell b 1 0;pass a b 4;");
        x.tell(1, 0, 100);
        due("span of a sealed one", x.span(0, 1), 0);
        x.tell(2, 1, 0);
        due("span of a sealed one", x.span(0, 2), 0);
    }

    private static void spanWithGaps() {
        WellVillages x = Check.over("cell a 1 20;cell b 1 0;pass a b 10;");
        // 20 * w by 100 flows: 0 for 0 .. 4, 1 for 5 .. 9, 2 for 10
        x.tell(1, 1, 1);
        due("span(0, 1)", x.span(0, 1), 509);
        x.tell(0, 0, 19);
        due("span(0, 2) with a wrong begin", x.span(0, 2), -2);
        // a narrow pass still brings what a wide one has brought long ago
        x = Check.over("cell a 1 100;cell b 1 0;pass a b 5;river b 0 10 0;");
        x.tell(39, 1, 15);
        due("span(0, 1): 3 and 10 alone", x.span(0, 1), 310);
        due("off(1): 5 does not", x.off(1), 0);
    }

    private static void rainSpan() {
        WellVillages x = Check.over("cell a 2 10;rain 5 40;");
        x.tell(1, 0, 7);
        due("rainSpan(0, 0)", x.rainSpan(0, 0), 99);
        due("rainSpan(0, 1)", x.rainSpan(0, 1), 405);
        due("rainSpan(1, 1)", x.rainSpan(1, 1), 99);
        due("rainSpan(2, 1)", x.rainSpan(2, 1), -1);
        due("rainSpan(-1, 1)", x.rainSpan(-1, 1), -1);
        due("rainSpan(0, 2)", x.rainSpan(0, 2), -1);
        x.tell(3, 0, 30); // 60 or 61: the first number came twice
        due("rainSpan(0, 2)", x.rainSpan(0, 2), 505);
        due("rainSpan(1, 2)", x.rainSpan(1, 2), 4041);
        x.tell(2, 0, 99);
        due("rainSpan(0, 3)", x.rainSpan(0, 3), -2);
        due("rainSpan without rain", Check.over("cell a 1 1;").rainSpan(0, 0), -1);
    }

    private static void pairs() {
        WellVillages x = Check.over("cell a 1 100;cell b 1 0;cell c 1 0;pass a b 5;pass a c 5;pass b c 1;");
        due("pairs(0, 1, 0, 0)", x.pairs(0, 1, 0, 0), 121);
        due("pairs(0, 1, 0, 1)", x.pairs(0, 1, 0, 1), 0);
        x.tell(1, 0, 92);
        due("pairs(0, 1, 1, 0)", x.pairs(0, 1, 1, 0), 9);
        due("pairs(0, 1, 1, 1)", x.pairs(0, 1, 1, 1), 8);
        x.tell(1, 1, 3);
        due("pairs(0, 1, 2, 0)", x.pairs(0, 1, 2, 0), 1);
        due("pairs(0, 1, 2, 1)", x.pairs(0, 1, 2, 1), 305);
        due("pairs(1, 0, 2, 1)", x.pairs(1, 0, 2, 1), 503);
        x.tell(1, 1, 4);
        due("pairs(0, 1, 3, 0)", x.pairs(0, 1, 3, 0), 0);
        due("pairs(0, 1, 3, 1)", x.pairs(0, 1, 3, 1), -2);
        due("pairs(0, 0, 0, 0)", x.pairs(0, 0, 0, 0), -1);
        due("pairs(0, 3, 0, 0)", x.pairs(0, 3, 0, 0), -1);
        due("pairs(-1, 1, 0, 0)", x.pairs(-1, 1, 0, 0), -1);
        due("pairs(0, 1, 4, 0)", x.pairs(0, 1, 4, 0), -1);
        due("pairs(0, 1, -1, 0)", x.pairs(0, 1, -1, 0), -1);
        due("pairs(0, 1, 0, 2)", x.pairs(0, 1, 0, 2), -1);
        due("pairs(0, 1, 0, -1)", x.pairs(0, 1, 0, -1), -1);
    }

    private static void test() {
        WellVillages x = Check.over("cell a 1 100;cell b 1 0;cell c 1 0;pass a b 5;pass a c 5;");
        x.tell(1, 0, 90);
        due("test on day 1", x.test(0, 1, 1, 1), 1);
        due("test on day 0: all alike", x.test(0, 1, 1, 0), 0);
        due("test without what is known", x.test(0, 1, 0, 1), 0);
        x.tell(1, 1, 20);
        due("test if no pair fits", x.test(0, 1, 2, 1), -2);
        due("test(0, 0, 0, 1)", x.test(0, 0, 0, 1), -1);
        due("test(0, 2, 0, 1)", x.test(0, 2, 0, 1), -1);
        due("test(-1, 1, 0, 1)", x.test(-1, 1, 0, 1), -1);
        due("test(0, 1, 3, 1)", x.test(0, 1, 3, 1), -1);
        due("test(0, 1, -1, 1)", x.test(0, 1, -1, 1), -1);
        due("test(0, 1, 0, 200)", x.test(0, 1, 0, 200), -1);
        due("test(0, 1, 0, -1)", x.test(0, 1, 0, -1), -1);
        // b has room: its levels part less than those of c
        x = Check.over("cell a 1 100;cell b 9 0;cell c 1 0;pass a b 5;pass a c 5;");
        x.tell(1, 0, 90);
        due("test", x.test(0, 1, 1, 1), 2);
        // what is known only later parts no less
        x = Check.over("cell a 1 100;cell b 9 0;cell c 1 0;pass a b 5;pass a c 5;");
        x.tell(30, 1, 99);
        due("test ahead of what is known", x.test(0, 1, 1, 1), -2);
    }

    private static void pump(String text, WellVillages x, int k, int... due) {
        for (int what = 0; what < 4; what++) {
            due(text + ": hidden(" + k + ", " + what + ")", x.hidden(k, what), due.length == 1 ? due[0] : due[what]);
        }
    }

    private static void hidden() {
        WellVillages x = Check.over("cell a 1 200;cell b 1 200;");
        pump("nothing is known", x, 0, -3);
        x.tell(5, 1, 200);
        pump("all is so", x, 1, -3);
        x.tell(14, 1, 200 - 126);
        pump("the dearest", x, 2, -2);
        pump("the first is so", x, 1, -3);
        x.forget();
        x.tell(14, 1, 200 - 126);
        pump("the dearest", x, 1, 1, 9, 0, 13);
        x.tell(199, 1, 200 - 126);
        pump("the dearest", x, 2, 1, 9, 0, 13);
        x.forget();
        x.tell(14, 1, 200 - 127);
        pump("too dear", x, 1, -2);
        x.forget();
        x.tell(0, 0, 199);
        pump("wrong at the begin", x, 1, -2);
        due("hidden(2, 0)", x.hidden(2, 0), -1);
        due("hidden(-1, 0)", x.hidden(-1, 0), -1);
        due("hidden(1, 4)", x.hidden(1, 4), -1);
        due("hidden(1, -1)", x.hidden(1, -1), -1);
        x.forget();
        x.tell(13, 0, 200);
        x.tell(15, 0, 195);
        pump("on the last day", x, 2, 0, 5, 13, 13);
        x.forget();
        x.tell(14, 0, 200);
        x.tell(15, 0, 195);
        pump("too late", x, 2, -2);
    }

    private static void hiddenByTheLeast() {
        WellVillages x = Check.over("cell a 1 100;");
        x.tell(3, 0, 91);
        pump("of alike ones the least days", x, 1, 0, 9, 0, 0);
        x.tell(1, 0, 97);
        pump("a longer one", x, 2, 0, 3, 0, 2);
        x.tell(2, 0, 94);
        pump("a longer one", x, 3, 0, 3, 0, 2);
        x.tell(4, 0, 91);
        pump("a longer one", x, 4, 0, 3, 0, 2);
        x.tell(4, 0, 92);
        pump("against itself", x, 5, -2);
        x.forget();
        x.tell(1, 0, 100);
        x.tell(3, 0, 88);
        pump("not on the first day", x, 2, 0, 6, 1, 2);
        // the least cell: what is taken from either shows behind the pass alike
        x = Check.over("cell a 1 100;cell b 1 100;cell c 1 0;pass a c 10;pass b c 10;");
        x.tell(1, 2, 19); // 10 and 9
        pump("of alike ones the least cell", x, 1, 0, 1, 0, 0);
        x.tell(1, 1, 89);
        pump("not of the first cell", x, 2, 1, 2, 0, 0);
        // no more than its water: 5 do what 9 would
        x = Check.over("cell a 1 5;village v a 5=day*5;");
        x.tell(1, 0, 0);
        pump("no more than its water", x, 1, 0, 5, 0, 0);
        x = Check.over("cell a 1 3;rain 0 10;");
        x.tell(1, 0, 0);
        x.tell(2, 0, 5);
        pump("less on the first day, all on the second", x, 2, 0, 5, 0, 1);
    }

    private static void hiddenBehindVillages() {
        WellVillages x = Check.over("cell a 1 10;village v a 10=8+dry*0;rain 0 10;");
        x.tell(1, 0, 0);
        pump("behind all villages", x, 1, 0, 2, 0, 0);
        // the village takes 8 of the 10 that rain on the next day; with the pump on both days nothing is left
        x.tell(2, 0, 0);
        pump("behind all villages", x, 2, 0, 2, 0, 1);
    }

    private static void fromTheBeginOfTheText() {
        WellVillages x = Check.over("cell a 1 100;cell b 1 0;pass a b 10;village v a 5=took+1;");
        x.run(20);
        x.pour(0, 5000);
        x.tell(1, 0, 90); // 1 is taken, 9 flow
        due("off(1)", x.off(1), -2);
        due("span(0, 1)", x.span(0, 1), 1010);
        due("hidden(1, 0)", x.hidden(1, 0), -3);
        due("count(4)", x.count(4), 20);
        due("cell(0, 0)", x.cell(0, 0), 5000);
        x.hold(0);
        x.restore(0);
        due("count(6)", x.count(6), 1);
        due("off(1)", x.off(1), -2);
    }
}
