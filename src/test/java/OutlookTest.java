/** Promises 12 to 26: what would be in n days. */
public final class OutlookTest {
    private static final Check CHECK = new Check("OutlookTest");
    private static final int[] NO_DAYS = {0, -1, 201, Integer.MAX_VALUE, Integer.MIN_VALUE};
    /** 100, 70, 40, 10, 0: dry from its day 4 on. */
    private static final String ALONE = "cell a 1 100;village v a 10=30;";
    /** The first takes 40, 40, 0; the second 20, 0. */
    private static final String TWO = "cell a 1 100;village u a 10=40;village v a 10=20;";

    public static void main(String[] args) {
        dryDays();
        fromNowOn();
        salty();
        effects();
        savedDays();
        fairest();
        most();
        share();
        firstOf();
        shut();
        balance();
        bodies();
        worth();
        blame();
        nothingHappens();
        CHECK.end();
    }

    private static void due(String call, long got, long want) {
        CHECK.due(call, got, want);
    }

    private static void dryDays() {
        WellVillages x = Check.over(ALONE + "village w a 0=0;");
        due("dry(0, 10)", x.dry(0, 10), 4);
        due("dry(0, 5)", x.dry(0, 5), 4);
        due("dry(0, 4)", x.dry(0, 4), -2);
        due("dry(1, 200)", x.dry(1, 200), -2);
        due("dries(0, 10)", x.dries(0, 10), 6);
        due("dries(0, 4)", x.dries(0, 4), 0);
        due("dries(0, 200)", x.dries(0, 200), 196);
        for (int n : NO_DAYS) {
            due("dry(0, " + n + ")", x.dry(0, n), -1);
            due("dries(0, " + n + ")", x.dries(0, n), -1);
        }
        for (int v : new int[] {-1, 2, 6, Integer.MAX_VALUE}) {
            due("dry(" + v + ", 1)", x.dry(v, 1), -1);
            due("dries(" + v + ", 1)", x.dries(v, 1), -1);
        }
    }

    private static void fromNowOn() {
        WellVillages x = Check.over(ALONE);
        x.run(3);
        due("dry(0, 10)", x.dry(0, 10), 1);
        due("dries(0, 10)", x.dries(0, 10), 9);
        x.run(3);
        due("dry(0, 10)", x.dry(0, 10), 0);
        due("dries(0, 10)", x.dries(0, 10), 10);
        due("firstOf(1)", x.firstOf(1), 0);
        x.pour(0, 25);
        due("dry(0, 10)", x.dry(0, 10), 1);
    }

    private static void salty() {
        WellVillages x = Check.over("cell a 1 100;cell b 1 100;river a 200 10 10;pass a b 10;");
        // day 1: a 110 with 100; day 2: 9 come with 90, 1 goes with 0 (100 * 1 by 110)
        due("salty(0, 90, 5)", x.salty(0, 90, 5), 1);
        due("salty(0, 91, 5)", x.salty(0, 91, 5), 2);
        due("salty(0, 161, 2)", x.salty(0, 161, 2), 2);
        due("salty(0, 162, 2)", x.salty(0, 162, 2), -2);
        due("salty(1, 1, 1)", x.salty(1, 1, 1), -2);
        due("salty(0, 9999, 200)", x.salty(0, 9999, 200), -2);
        due("salty(0, 0, 5)", x.salty(0, 0, 5), -1);
        due("salty(0, 10000, 5)", x.salty(0, 10000, 5), -1);
        due("salty(2, 5, 5)", x.salty(2, 5, 5), -1);
        due("salty(-1, 5, 5)", x.salty(-1, 5, 5), -1);
        for (int n : NO_DAYS) {
            due("salty(0, 5, " + n + ")", x.salty(0, 5, n), -1);
        }
        x.run(1);
        due("salty(0, 90, 5) if it is so already", x.salty(0, 90, 5), 1);
    }

    private static void effects() {
        WellVillages x = Check.over("cell a 1 100;cell b 2 0;pass a b 10;river b 100 10 0;village v a 0=50;");
        // without: a 50, 45; b 0, 10 + 5
        due("effect(0, 0, 0, 1)", x.effect(0, 0, 0, 1), 90 - 45);
        due("effect(0, 0, 1, 1)", x.effect(0, 0, 1, 1), 10 - 7);
        due("effect(1, 0, 0, 1)", x.effect(1, 0, 0, 1), 50 - 45);
        due("effect(1, 0, 1, 1)", x.effect(1, 0, 1, 1), 5 - 7);
        due("effect(2, 0, 0, 1)", x.effect(2, 0, 0, 1), 0);
        due("effect(2, 0, 1, 1)", x.effect(2, 0, 1, 1), 2 - 7);
        due("effect(0, 0, 0, 2)", x.effect(0, 0, 0, 2), 82 - 0);
        due("effect(0, 1, 0, 1)", x.effect(0, 1, 0, 1), -1000000);
        due("effect(1, 1, 0, 1)", x.effect(1, 1, 0, 1), -1000000);
        due("effect(2, 1, 0, 1)", x.effect(2, 1, 0, 1), -1000000);
        due("effect(2, -1, 0, 1)", x.effect(2, -1, 0, 1), -1000000);
        due("effect(3, 0, 0, 1)", x.effect(3, 0, 0, 1), -1000000);
        due("effect(-1, 0, 0, 1)", x.effect(-1, 0, 0, 1), -1000000);
        due("effect(0, 0, 2, 1)", x.effect(0, 0, 2, 1), -1000000);
        due("effect(0, 0, -1, 1)", x.effect(0, 0, -1, 1), -1000000);
        for (int n : NO_DAYS) {
            due("effect(0, 0, 0, " + n + ")", x.effect(0, 0, 0, n), -1000000);
        }
    }

    private static void savedDays() {
        WellVillages x = Check.over(TWO);
        due("dries(0, 4)", x.dries(0, 4), 2);
        due("dries(1, 4)", x.dries(1, 4), 3);
        due("saved(0, 0, 1, 4)", x.saved(0, 0, 1, 4), 3);
        due("saved(0, 1, 0, 4)", x.saved(0, 1, 0, 4), 1);
        due("saved(0, 0, 0, 4)", x.saved(0, 0, 0, 4), -1000000);
        due("saved(0, 2, 0, 4)", x.saved(0, 2, 0, 4), -1000000);
        due("saved(0, 0, 2, 4)", x.saved(0, 0, 2, 4), -1000000);
        due("saved(0, 0, -1, 4)", x.saved(0, 0, -1, 4), -1000000);
        due("saved(1, 0, 0, 4)", x.saved(1, 0, 0, 4), -1000000);
        due("saved(2, 0, 0, 4)", x.saved(2, 0, 0, 4), -1000000);
        due("saved(3, 0, 0, 4)", x.saved(3, 0, 0, 4), -1000000);
        for (int n : NO_DAYS) {
            due("saved(0, 0, 1, " + n + ")", x.saved(0, 0, 1, n), -1000000);
        }
        // what feeds the village is sealed, or dammed
        x = Check.over("cell a 1 1000;cell b 1 0;pass a b 10;village v b 50=50;");
        due("dries(0, 3)", x.dries(0, 3), 1);
        due("saved(1, 0, 0, 3)", x.saved(1, 0, 0, 3), -2);
        x = Check.over("cell b 1 0;river b 900 10 0;village v b 50=50;");
        due("saved(2, 0, 0, 3)", x.saved(2, 0, 0, 3), -2);
    }

    private static void fairest() {
        WellVillages x = Check.over(ALONE);
        due("fairest(1)", x.fairest(1), 99);
        due("fairest(4)", x.fairest(4), 25);
        due("fairest(7)", x.fairest(7), 14);
        due("fairest(200)", x.fairest(200), 0);
        x = Check.over(TWO);
        due("fairest(1)", x.fairest(1), 50);
        due("fairest(5)", x.fairest(5), 10);
        for (int n : NO_DAYS) {
            due("fairest(" + n + ")", x.fairest(n), -1);
            due("share(" + n + ")", x.share(n), -1);
        }
        x = Check.over("cell a 1 100;");
        due("fairest without villages", x.fairest(1), -1);
        due("share without villages", x.share(1), -1);
    }

    private static void most() {
        WellVillages x = Check.over(TWO);
        due("most(0, 1)", x.most(0, 1), 90); // the other takes 10
        due("most(0, 4)", x.most(0, 4), 7);
        due("most(1, 3)", x.most(1, 3), 0);
        due("most(1, 4)", x.most(1, 4), -2);
        due("most(-1, 1)", x.most(-1, 1), -1);
        due("most(2, 1)", x.most(2, 1), -1);
        for (int n : NO_DAYS) {
            due("most(0, " + n + ")", x.most(0, n), -1);
        }
        due("most of one alone, below its need", Check.over(ALONE).most(0, 20), 5);
    }

    private static void share() {
        WellVillages x = Check.over(ALONE);
        due("share(10)", x.share(10), 100);
        due("share(11)", x.share(11), 99); // 9 each day
        due("share(20)", x.share(20), 59); // 5 each day
        due("share(200)", x.share(200), 9); // 0 each day
        x = Check.over("cell a 1 10;village u a 99=0;village v a 0=0;");
        due("share(1)", x.share(1), 11); // 10 of 99
    }

    private static void firstOf() {
        WellVillages x = Check.over(TWO);
        due("firstOf(1)", x.firstOf(1), -2);
        due("firstOf(2)", x.firstOf(2), 1);
        due("firstOf(200)", x.firstOf(200), 1);
        for (int n : NO_DAYS) {
            due("firstOf(" + n + ")", x.firstOf(n), -1);
        }
        due("firstOf of one day", Check.over("cell a 1 0;village u a 0=0;village v a 1=1;village w a 1=1;").firstOf(1), 1);
        due("firstOf without villages", Check.over("cell a 1 0;").firstOf(1), -2);
    }

    private static void shut() {
        WellVillages x = Check.over(TWO);
        due("shut(0, 2)", x.shut(0, 2), 0);
        due("shut(0, 3)", x.shut(0, 3), 2);
        due("shut(0, 4)", x.shut(0, 4), -2);
        due("shut(1, 1)", x.shut(1, 1), 0);
        due("shut(1, 4)", x.shut(1, 4), 1);
        due("shut(2, 4)", x.shut(2, 4), -1);
        due("shut(-1, 4)", x.shut(-1, 4), -1);
        for (int n : NO_DAYS) {
            due("shut(0, " + n + ")", x.shut(0, n), -1);
        }
        // of alike ones the least bits; the fewest, though the bits are higher
        x = Check.over("cell a 1 100;village u a 0=30;village v a 0=30;village w a 50=50;");
        due("shut(2, 1)", x.shut(2, 1), 1);
        x = Check.over("cell a 1 100;village t a 0=20;village u a 0=20;village v a 0=20;village w a 80=80;");
        due("shut(3, 1)", x.shut(3, 1), 3);
        x = Check.over("cell a 1 100;village t a 0=15;village u a 0=15;village v a 0=30;village w a 70=70;");
        due("shut(3, 1), one rather than two", x.shut(3, 1), 4);
    }

    private static void balance() {
        WellVillages x = Check.over("cell a 1 100;cell b 1 100;rain 5 2;river a 0 10 0;river b 500 1 0;village v a 9=30;");
        // day 0: 10 of rain, 30 taken, a 75: 7 go, b 105: 3 come; day 1: 4, 30, a 40: 4 go, b 110: 3 come
        due("balance(1, 0)", x.balance(1, 0), 10);
        due("balance(1, 1)", x.balance(1, 1), 30);
        due("balance(1, 2)", x.balance(1, 2), -4);
        due("balance(1, 3)", x.balance(1, 3), -24);
        due("balance(2, 0)", x.balance(2, 0), 14);
        due("balance(2, 1)", x.balance(2, 1), 60);
        due("balance(2, 2)", x.balance(2, 2), -5);
        due("balance(2, 3)", x.balance(2, 3), -51);
        due("balance(1, 4)", x.balance(1, 4), -1000000);
        due("balance(1, -1)", x.balance(1, -1), -1000000);
        for (int n : NO_DAYS) {
            due("balance(" + n + ", 0)", x.balance(n, 0), -1000000);
        }
    }

    private static void bodies() {
        String cells = "cell a 1 1;cell b 1 1;cell c 1 1;cell d 1 1;cell e 1 1;";
        WellVillages x = Check.over(cells);
        due("parts()", x.parts(), 5);
        due("bridges()", x.bridges(), 0);
        x = Check.over(cells + "pass a b 1;pass b c 1;pass c a 1;pass c d 1;");
        due("parts()", x.parts(), 2);
        due("bridges()", x.bridges(), 8);
        x = Check.over(cells + "pass e d 1;pass d c 1;pass c b 1;pass b a 1;");
        due("parts()", x.parts(), 1);
        due("bridges()", x.bridges(), 15);
        x = Check.over(cells + "pass a b 1;pass b a 1;pass d e 1;");
        due("parts()", x.parts(), 3);
        due("bridges()", x.bridges(), 4);
        StringBuilder long12 = new StringBuilder();
        for (int i = 0; i < 12; i++) {
            long12.append("cell ").append((char) ('a' + i)).append(" 1 1;");
        }
        for (int i = 10; i >= 0; i--) {
            long12.append("pass ").append((char) ('a' + i)).append(' ').append((char) ('b' + i)).append(" 1;");
        }
        x = Check.over(long12.toString());
        due("parts()", x.parts(), 1);
        due("bridges()", x.bridges(), 2047);
    }

    private static void worth() {
        WellVillages x = Check.over(TWO);
        int[] ofSecond = {0, 2, 0, 3};
        int[] ofFirst = {0, 1, 0, 2};
        for (int set = 0; set < 4; set++) {
            due("worth(1, " + set + ", 4)", x.worth(1, set, 4), ofSecond[set]);
            due("worth(0, " + set + ", 4)", x.worth(0, set, 4), ofFirst[set]);
        }
        due("worth(1, 4, 4)", x.worth(1, 4, 4), -1);
        due("worth(1, -1, 4)", x.worth(1, -1, 4), -1);
        due("worth(2, 0, 4)", x.worth(2, 0, 4), -1);
        due("worth(-1, 0, 4)", x.worth(-1, 0, 4), -1);
        for (int n : NO_DAYS) {
            due("worth(0, 0, " + n + ")", x.worth(0, 0, n), -1);
        }
        // v takes nothing, but its cell has less than its need
        x = Check.over("cell a 1 9;village v a 10=0;village w a 9=9;");
        due("worth(0, 0, 3)", x.worth(0, 0, 3), 3);
        due("worth(0, 1, 3)", x.worth(0, 1, 3), 3);
        due("worth(1, 0, 3)", x.worth(1, 0, 3), 0);
        due("worth(1, 2, 3)", x.worth(1, 2, 3), 2);
        // at its turn: what those ahead of it took is gone, what those behind it take is not
        x = Check.over("cell a 1 10;village u a 0=10;village v a 10=0;village w a 0=10;");
        due("worth(1, 1, 1)", x.worth(1, 1, 1), 1);
        due("worth(1, 4, 1)", x.worth(1, 4, 1), 0);
    }

    private static void blame() {
        WellVillages x = Check.over(TWO);
        due("blame(1, 0, 4)", x.blame(1, 0, 4), 5);
        due("blame(1, 1, 4)", x.blame(1, 1, 4), 1);
        due("blame(0, 0, 4)", x.blame(0, 0, 4), 1 + 2);
        due("blame(0, 1, 4)", x.blame(0, 1, 4), 0 + 1);
        for (int bad : new int[] {-1, 2, Integer.MAX_VALUE}) {
            due("blame(" + bad + ", 0, 4)", x.blame(bad, 0, 4), -1000000);
            due("blame(0, " + bad + ", 4)", x.blame(0, bad, 4), -1000000);
        }
        for (int n : NO_DAYS) {
            due("blame(0, 0, " + n + ")", x.blame(0, 0, n), -1000000);
        }
        x = Check.over("cell a 1 90;cell b 1 70;pass a b 10;rain 0 9 1;village p a 9=20;village q b 9=seen/3;"
            + "village r a 12=took+5;village s b 10=13;village t a 5=9-dry;village u a 3=day;");
        for (int v = 0; v < 6; v++) {
            long sum = 0;
            for (int u = 0; u < 6; u++) {
                sum += x.blame(v, u, 30);
            }
            due("all blames for " + v, sum, 720L * (x.worth(v, 63, 30) - x.worth(v, 0, 30)));
        }
    }

    private static void nothingHappens() {
        WellVillages x = Check.over("cell a 1 90;cell b 1 70;pass a b 10;river a 300 9 9;rain 0 9 1;village p a 9=20;"
            + "village q b 9=seen/3+dry;");
        x.run(3);
        String was = state(x);
        x.dry(0, 50);
        x.dries(1, 50);
        x.salty(0, 9999, 50);
        x.effect(1, 0, 0, 50);
        x.saved(2, 0, 0, 50);
        x.fairest(50);
        x.most(1, 50);
        x.firstOf(50);
        x.share(50);
        x.shut(0, 50);
        x.balance(50, 2);
        x.worth(1, 0, 50);
        x.blame(1, 0, 50);
        x.want(1);
        x.flow(0, false);
        due("all is as it was", was.equals(state(x)) ? 1 : 0, 1);
        WellVillages y = Check.over("cell a 1 90;cell b 1 70;pass a b 10;river a 300 9 9;rain 0 9 1;village p a 9=20;"
            + "village q b 9=seen/3+dry;");
        y.run(10);
        x.run(7);
        due("it goes on as if nothing had been asked", state(y).equals(state(x)) ? 1 : 0, 1);
    }

    private static String state(WellVillages x) {
        StringBuilder s = new StringBuilder();
        for (int what = 0; what <= 9; what++) {
            s.append(x.count(what)).append(' ');
        }
        for (int i = 0; i < 2; i++) {
            for (int what = 0; what <= 6; what++) {
                s.append(x.cell(i, what)).append(' ').append(x.village(i, what)).append(' ');
            }
        }
        return s.toString();
    }
}
