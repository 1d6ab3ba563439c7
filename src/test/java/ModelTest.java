import java.util.Random;

/** Runs of calls by chance, each answer held against the model's. Arguments: how many runs, the first seed. */
public final class ModelTest {
    private final Check check;
    private final Random random;
    private final RandomTexts texts;
    private final WellVillages x = new WellVillages();
    private final Model m = new Model();
    private final int seed;

    private ModelTest(Check check, int seed) {
        this.check = check;
        this.seed = seed;
        this.random = new Random(seed);
        this.texts = new RandomTexts(random);
    }

    public static void main(String[] args) {
        int runs = args.length > 0 ? Integer.parseInt(args[0]) : 1500;
        int first = args.length > 1 ? Integer.parseInt(args[1]) : 1;
        Check check = new Check("ModelTest");
        for (int seed = first; seed < first + runs && check.wrong() < 20; seed++) {
            new ModelTest(check, seed).calls();
        }
        check.end();
    }

    private void due(String call, long got, long want) {
        check.due("seed " + seed + " " + call, got, want);
    }

    private int upTo(int n) {
        return random.nextInt(n + 1);
    }

    /** A number of what there are so many of; now and then one that is not there. */
    private int some(int count) {
        return random.nextInt(12) == 0 ? new int[] {-1, count, count + 1, Integer.MIN_VALUE, Integer.MAX_VALUE}[upTo(4)]
            : count == 0 ? 0 : random.nextInt(count);
    }

    private int days() {
        return random.nextInt(12) == 0 ? new int[] {0, -1, 201, Integer.MAX_VALUE, 200}[upTo(4)]
            : 1 + upTo(new int[] {3, 10, 40}[upTo(2)]);
    }

    private void calls() {
        readText(texts.good());
        for (int i = 0; i < 60; i++) {
            if (random.nextInt(25) == 0) {
                readText(random.nextInt(3) == 0 ? texts.good() : texts.bad());
            }
            oneCall(random.nextInt(38));
        }
        sameState();
    }

    private void readText(String text) {
        int before = (int) m.count(7);
        x.back(before);
        m.back(before);
        Check.put(x, text);
        m.tape.append(text);
        due("count(7)", x.count(7), m.count(7));
        due("read of: " + text, x.read(), m.read());
        due("place of: " + text, x.place(), m.faultPlace);
        sameState();
    }

    private void sameState() {
        for (int i = -1; i <= 10; i++) {
            due("count(" + i + ")", x.count(i), m.count(i));
        }
        for (int c = 0; c < m.text.cells.size(); c++) {
            for (int i = -1; i <= 7; i++) {
                due("cell(" + c + ", " + i + ")", x.cell(c, i), m.cell(c, i));
            }
        }
        for (int v = 0; v < m.text.villages.size(); v++) {
            for (int i = -1; i <= 6; i++) {
                due("village(" + v + ", " + i + ")", x.village(v, i), m.village(v, i));
            }
        }
    }

    private void oneCall(int which) {
        int c = some(m.text.cells.size());
        int v = some(m.text.villages.size());
        int u = some(m.text.villages.size());
        int p = some(m.text.passes.size());
        int q = some(m.text.passes.size());
        int k = random.nextInt(3) == 0 ? some(m.told.size() + 1) : m.told.size();
        int n = days();
        int what = upTo(5) - 1;
        switch (which) {
            case 0 -> feed();
            case 1 -> back();
            case 2 -> due("cell(" + c + ", " + what + ")", x.cell(c, what), m.cell(c, what));
            case 3 -> due("village(" + v + ", " + what + ")", x.village(v, what), m.village(v, what));
            case 4 -> due("want(" + v + ")", x.want(v), m.want(v));
            case 5, 6 -> run();
            case 7 -> due("flow(" + p + ", false)", x.flow(p, false), m.flow(p, false));
            case 8 -> due("flow(" + what + ", true)", x.flow(what, true), m.flow(what, true));
            case 9 -> pour(c);
            case 10 -> due("dry(" + v + ", " + n + ")", x.dry(v, n), m.dry(v, n));
            case 11 -> due("dries(" + v + ", " + n + ")", x.dries(v, n), m.dries(v, n));
            case 12 -> salty(c, n);
            case 13, 14 -> changes(c, v, n);
            case 15 -> due("fairest(" + n + ")", x.fairest(n), m.fairest(n));
            case 16 -> due("most(" + v + ", " + n + ")", x.most(v, n), m.most(v, n));
            case 17 -> due("firstOf(" + n + ")", x.firstOf(n), m.firstOf(n));
            case 18 -> due("share(" + n + ")", x.share(n), m.share(n));
            case 19 -> due("shut(" + v + ", " + n + ")", x.shut(v, n), m.shut(v, n));
            case 20 -> due("balance(" + n + ", " + what + ")", x.balance(n, what), m.balance(n, what));
            case 21 -> due("parts()", x.parts(), m.parts());
            case 22 -> due("bridges()", x.bridges(), m.bridges());
            case 23 -> worth(v, n);
            case 24 -> due("blame(" + v + ", " + u + ", " + n + ")", x.blame(v, u, n), m.blame(v, u, n));
            case 25, 26, 27 -> tellTrue(c);
            case 28 -> tellByPump();
            case 29 -> forget();
            case 30 -> due("off(" + k + ")", x.off(k), m.off(k));
            case 31 -> due("span(" + p + ", " + k + ")", x.span(p, k), m.span(p, k));
            case 32 -> rainSpan(k);
            case 33 -> due("pairs(" + p + ", " + q + ", " + k + ", " + what + ")", x.pairs(p, q, k, what),
                m.pairs(p, q, k, what));
            case 34 -> test(p, q, k);
            case 35 -> hidden(k);
            case 36 -> hold();
            default -> restore();
        }
    }

    private void feed() {
        int a = random.nextInt();
        int b = random.nextInt();
        for (int i = random.nextInt(8) == 0 ? 101 : 1; i > 0; i--) {
            due("feed", x.feed(a, b, a + 1, b + 1, 7), m.feed(a, b, a + 1, b + 1, 7));
        }
    }

    private void back() {
        int n = random.nextInt(3) == 0 ? random.nextInt() : upTo(40);
        due("back(" + n + ")", x.back(n), m.back(n));
        due("count(7)", x.count(7), m.count(7));
    }

    private void run() {
        int n = random.nextInt(8) == 0 ? new int[] {-1, 0, 400, 401, 100, Integer.MIN_VALUE}[upTo(5)] : upTo(20);
        due("run(" + n + ")", x.run(n), m.run(n));
        sameState();
    }

    private void pour(int c) {
        int water = new int[] {0, 5, 300, 9999, 10000, -1}[upTo(5)];
        due("pour(" + c + ", " + water + ")", x.pour(c, water) ? 1 : 0, m.pour(c, water));
    }

    private void salty(int c, int n) {
        int t = new int[] {0, 1, 50, 400, 5000, 9999, 10000, 1 + upTo(2000)}[upTo(7)];
        due("salty(" + c + ", " + t + ", " + n + ")", x.salty(c, t, n), m.salty(c, t, n));
    }

    private void changes(int c, int v, int n) {
        int what = upTo(4) - 1;
        int which = some(what == 0 ? m.text.villages.size() : what == 1 ? m.text.passes.size() : m.text.rivers.size());
        String told = "(" + what + ", " + which + ", ";
        due("effect" + told + c + ", " + n + ")", x.effect(what, which, c, n), m.effect(what, which, c, n));
        due("saved" + told + v + ", " + n + ")", x.saved(what, which, v, n), m.saved(what, which, v, n));
    }

    private void worth(int v, int n) {
        int set = some(1 << m.text.villages.size());
        due("worth(" + v + ", " + set + ", " + n + ")", x.worth(v, set, n), m.worth(v, set, n));
    }

    private void tell(int day, int c, int level) {
        due("tell(" + day + ", " + c + ", " + level + ")", x.tell(day, c, level), m.tell(day, c, level));
    }

    /** Most levels are as the text, or a ground near it, makes them. */
    private void tellTrue(int c) {
        int day = random.nextInt(15) == 0 ? new int[] {-1, 200, 199, 0}[upTo(3)] : upTo(12);
        Model.Other o = new Model.Other();
        if (!m.text.passes.isEmpty() && random.nextBoolean()) {
            o.width.put(random.nextInt(m.text.passes.size()), upTo(10));
        }
        if (!m.text.rain.isEmpty() && random.nextInt(3) == 0) {
            o.rain.put(random.nextInt(m.text.rain.size()), upTo(99));
        }
        int level = m.isCell(c) ? (int) m.level(begin(day, o), c) : 3;
        tell(day, c, random.nextInt(15) == 0 ? new int[] {-1, 10000, level + 1, 9999}[upTo(3)] : level);
    }

    private Model.State begin(int day, Model.Other o) {
        Model.State s = new Model.State(m.text);
        for (int i = 0; i < day; i++) {
            m.day(s, o);
        }
        return s;
    }

    private void tellByPump() {
        if (m.text.cells.isEmpty()) {
            return;
        }
        int a = upTo(13);
        int b = a + upTo(13 - a);
        Model.Other o = new Model.Other();
        o.pump = new int[] {random.nextInt(m.text.cells.size()), 1 + upTo(8), a, b};
        due("forget()", x.forget(), m.forget());
        for (int i = upTo(3); i >= 0; i--) {
            int day = upTo(20);
            int c = random.nextInt(m.text.cells.size());
            tell(day, c, (int) m.level(begin(day, o), c));
        }
        hidden(m.told.size());
    }

    private void forget() {
        due("forget()", x.forget(), m.forget());
    }

    private void rainSpan(int k) {
        int i = some(m.text.rain.size());
        due("rainSpan(" + i + ", " + k + ")", x.rainSpan(i, k), m.rainSpan(i, k));
    }

    private void test(int p, int q, int k) {
        int day = random.nextInt(10) == 0 ? new int[] {-1, 200, 199}[upTo(2)] : upTo(20);
        due("test(" + p + ", " + q + ", " + k + ", " + day + ")", x.test(p, q, k, day), m.test(p, q, k, day));
    }

    private void hidden(int k) {
        if (m.text.cells.size() > 4) {
            return; // the model takes too long
        }
        for (int i = 0; i < k && i < m.told.size(); i++) {
            if (m.told.get(i)[0] > 20) {
                return;
            }
        }
        int what = upTo(5) - 1;
        due("hidden(" + k + ", " + what + ")", x.hidden(k, what), m.hidden(k, what));
    }

    private void hold() {
        int slot = upTo(4) - 1;
        due("hold(" + slot + ")", x.hold(slot) ? 1 : 0, m.hold(slot));
    }

    private void restore() {
        int slot = upTo(4) - 1;
        due("restore(" + slot + ")", x.restore(slot) ? 1 : 0, m.restore(slot));
        sameState();
    }
}
