/** Each call over texts that are full in all that the document bounds, its answers held against the model's. */
public final class FullTest {
    private static final Check CHECK = new Check("FullTest");

    public static void main(String[] args) {
        isFull();
        oneMoreIsTooMuch();
        for (String text : new String[] {FullText.text(), FullText.poor()}) {
            new FullTest(text).calls();
        }
        CHECK.end();
    }

    private final WellVillages x = new WellVillages();
    private final Model m = new Model();

    private FullTest(String text) {
        Check.put(x, text);
        m.tape.append(text);
        due("read", x.read(), 0);
        due("read", m.read(), 0);
    }

    private static void due(String call, long got, long want) {
        CHECK.due(call, got, want);
    }

    private static void isFull() {
        for (String text : new String[] {FullText.text(), FullText.poor()}) {
            WellVillages x = Check.over(text);
            int[] due = {12, 20, 3, 6, 0, 14};
            for (int what = 0; what < due.length; what++) {
                due("count(" + what + ")", x.count(what), due[what]);
            }
            due("bytes at most", text.length() <= 2000 ? 1 : 0, 1);
        }
        due("tokens", new Model.Parser(FullText.text()).tokens.size(), 400);
        due("tokens", new Model.Parser(FullText.poor()).tokens.size(), 400);
    }

    private static void oneMoreIsTooMuch() {
        for (String more : "cell pass river village rain".split(" ")) {
            WellVillages x = new WellVillages();
            Check.put(x, FullText.text() + more);
            due("read with one more " + more, x.read(), 2);
            due("place", x.place(), FullText.text().length());
        }
    }

    private void calls() {
        state();
        due("run", x.run(3), m.run(3));
        state();
        outlook();
        due("run", x.run(60), m.run(60));
        state();
        for (int slot = 0; slot <= 2; slot++) {
            due("hold", x.hold(slot) ? 1 : 0, m.hold(slot));
        }
        due("run", x.run(5), m.run(5));
        due("restore", x.restore(2) ? 1 : 0, m.restore(2));
        state();
        evidence();
    }

    private void state() {
        for (int i = 0; i <= 9; i++) {
            due("count " + i, x.count(i), m.count(i));
        }
        for (int c = 0; c <= 12; c++) {
            for (int i = 0; i <= 6; i++) {
                due("cell " + c + ", " + i, x.cell(c, i), m.cell(c, i));
            }
        }
        for (int v = 0; v <= 6; v++) {
            for (int i = 0; i <= 5; i++) {
                due("village " + v + ", " + i, x.village(v, i), m.village(v, i));
            }
            due("want " + v, x.want(v), m.want(v));
        }
        for (int way = 0; way <= 20; way++) {
            due("flow " + way, x.flow(way, false), m.flow(way, false));
            due("flow of river " + way, x.flow(way, true), m.flow(way, true));
        }
    }

    private void outlook() {
        for (int v = 0; v <= 6; v++) {
            due("dry", x.dry(v, 40), m.dry(v, 40));
            due("dries", x.dries(v, 40), m.dries(v, 40));
            due("most", x.most(v, 9), m.most(v, 9));
            due("shut", x.shut(v, 12), m.shut(v, 12));
            due("worth", x.worth(v, 63, 12), m.worth(v, 63, 12));
            due("worth", x.worth(v, 21, 12), m.worth(v, 21, 12));
            for (int u = 0; u <= 6; u++) {
                due("blame " + v + " " + u, x.blame(v, u, 8), m.blame(v, u, 8));
            }
        }
        for (int n : new int[] {1, 5, 20}) {
            due("fairest", x.fairest(n), m.fairest(n));
            due("share", x.share(n), m.share(n));
            due("firstOf", x.firstOf(n), m.firstOf(n));
            for (int what = 0; what <= 3; what++) {
                due("balance", x.balance(n, what), m.balance(n, what));
            }
        }
        changes();
        due("parts", x.parts(), m.parts());
        due("bridges", x.bridges(), m.bridges());
        for (int c = 0; c <= 12; c++) {
            due("salty", x.salty(c, 300, 25), m.salty(c, 300, 25));
        }
    }

    private void changes() {
        for (int what = 0; what <= 2; what++) {
            for (int which = 0; which <= 20; which++) {
                due("effect", x.effect(what, which, which % 12, 9), m.effect(what, which, which % 12, 9));
                due("saved", x.saved(what, which, 5 - which % 6, 20), m.saved(what, which, 5 - which % 6, 20));
            }
        }
    }

    /** Twenty levels, the last of them of the last cell; the first few as the text makes them with a wider pass. */
    private void evidence() {
        Model.Other wider = new Model.Other();
        wider.width.put(19, 10);
        wider.rain.put(1, 30);
        Model.State s = new Model.State(m.text);
        for (int i = 0; i < 20; i++) {
            int cell = 11 - i % 12;
            tell(i / 4, cell, (int) m.level(s, cell));
            if (i % 4 == 3) {
                m.day(s, wider);
            }
        }
        due("a 21st", x.tell(0, 0, 0), -1);
        for (int k = 0; k <= 21; k++) {
            due("off " + k, x.off(k), m.off(k));
        }
        for (int k : new int[] {0, 3, 6, 20}) {
            for (int p = 0; p <= 20; p++) {
                due("span " + p + ", " + k, x.span(p, k), m.span(p, k));
            }
            for (int i = 0; i <= 14; i++) {
                due("rainSpan " + i + ", " + k, x.rainSpan(i, k), m.rainSpan(i, k));
            }
            due("pairs", x.pairs(19, 18, k, 0), m.pairs(19, 18, k, 0));
            due("first pair", x.pairs(18, 19, k, 1), m.pairs(18, 19, k, 1));
            due("test", x.test(19, 11, k, 5), m.test(19, 11, k, 5));
            due("test", x.test(0, 19, k, 0), m.test(0, 19, k, 0));
        }
        pump();
    }

    private void tell(int day, int cell, int level) {
        due("tell", x.tell(day, cell, level), m.tell(day, cell, level));
    }

    /** A pump at the last cell, and levels of the last cells. */
    private void pump() {
        due("forget", x.forget(), m.forget());
        Model.Other o = new Model.Other();
        o.pump = new int[] {11, 9, 1, 2};
        Model.State s = new Model.State(m.text);
        for (int day = 0; day <= 4; day++) {
            tell(day, 11, (int) m.level(s, 11));
            tell(day, 10, (int) m.level(s, 10));
            m.day(s, o);
        }
        for (int k : new int[] {0, 5, 10}) {
            due("hidden " + k, x.hidden(k, 0), m.hidden(k, 0));
        }
        for (int what = 1; what <= 3; what++) {
            due("hidden what " + what, x.hidden(10, what), m.hidden(10, what));
        }
    }
}
