import java.math.BigInteger;
import java.util.ArrayList;
import java.util.List;
import java.util.TreeMap;
import java.util.Map;
import java.util.Set;

/**
 * The document once more, in the plainest words and without any care for speed: what the class answers is held
 * against it. It shares no code with the class.
 */
final class Model {
    private static final Set<String> WORDS = Set.of("cell", "pass", "river", "rain", "village", "at", "seen", "day",
        "today", "took", "dry");

    record Token(String text, int place, boolean real) {
        boolean isName() {
            return real && Character.isLetter(text.charAt(0)) && !WORDS.contains(text);
        }

        boolean isInt() {
            return real && Character.isDigit(text.charAt(0));
        }

        boolean is(String what) {
            return real && text.equals(what);
        }

        int number() {
            return Integer.parseInt(text);
        }
    }

    record Cell(String name, int room, int water) { }

    record Pass(int from, int to, int width) { }

    record River(int cell, int level, int width, int salt) { }

    record Village(String name, int cell, int need, Node law) { }

    /** A law's tree: a number, a variable, a level or two parts joined. */
    record Node(String kind, int number, Node left, Node right) { }

    record Fault(int number, int place) { }

    static final class Text {
        final List<Cell> cells = new ArrayList<>();
        final List<Pass> passes = new ArrayList<>();
        final List<River> rivers = new ArrayList<>();
        final List<Village> villages = new ArrayList<>();
        List<Integer> rain = new ArrayList<>();
    }

    static final class DividesByNothing extends Exception {
        private static final long serialVersionUID = 1L;
    }

    // ---- reading: all faults are gathered, then the first by its place is taken

    static final class Parser {
        final List<Token> tokens = new ArrayList<>();
        final List<Fault> hard = new ArrayList<>();
        final List<Fault> soft = new ArrayList<>();
        final Text text = new Text();
        final List<String> told = new ArrayList<>();
        final Map<Integer, Integer> ways = new TreeMap<>();
        final int end;
        int at = 0;

        static final class Stop extends RuntimeException {
            private static final long serialVersionUID = 1L;
        }

        Parser(String tape) {
            end = tape.length();
            int i = 0;
            while (i < end) {
                char c = tape.charAt(i);
                int j = i + 1;
                if (c == 9 || c == 10 || c == 13 || c == 32) {
                    i = j;
                    continue;
                }
                boolean real = ";=+-*/()".indexOf(c) >= 0;
                if (c >= 'a' && c <= 'z') {
                    while (j < end && tape.charAt(j) >= 'a' && tape.charAt(j) <= 'z') {
                        j++;
                    }
                    real = j - i <= 8;
                } else if (c >= '0' && c <= '9') {
                    while (j < end && tape.charAt(j) >= '0' && tape.charAt(j) <= '9') {
                        j++;
                    }
                    real = j - i <= 4;
                }
                tokens.add(new Token(tape.substring(i, j), i, real));
                i = j;
            }
            if (tokens.size() > 400) {
                hard.add(new Fault(2, tokens.get(400).place));
            }
        }

        Fault parse() {
            try {
                while (at < tokens.size()) {
                    telling();
                }
            } catch (Stop stop) {
                // the faults tell what was wrong
            }
            List<Fault> faults = hard.isEmpty() ? soft : hard;
            Fault first = null;
            for (Fault f : faults) {
                if (first == null || f.place < first.place || f.place == first.place && f.number < first.number) {
                    first = f;
                }
            }
            return first;
        }

        Token now() {
            return at < tokens.size() ? tokens.get(at) : new Token("", end, false);
        }

        Token take(boolean goesOn) {
            Token t = now();
            if (!goesOn) {
                hard.add(new Fault(1, t.place));
                throw new Stop();
            }
            at++;
            return t;
        }

        Token sign(String what) {
            return take(now().is(what));
        }

        int number(int least, int greatest) {
            Token t = take(now().isInt());
            if (t.number() < least || t.number() > greatest) {
                soft.add(new Fault(5, t.place));
            }
            return t.number();
        }

        String newName() {
            Token t = take(now().isName());
            if (told.contains(t.text)) {
                soft.add(new Fault(3, t.place));
            }
            return t.text;
        }

        int cellNamed() {
            Token t = take(now().isName());
            for (int c = 0; c < text.cells.size(); c++) {
                if (text.cells.get(c).name.equals(t.text)) {
                    return c;
                }
            }
            soft.add(new Fault(4, t.place));
            return -1;
        }

        void room(boolean enough, int place) {
            if (!enough) {
                hard.add(new Fault(2, place));
            }
        }

        void way(int cell, int place) {
            room(ways.merge(cell, 1, Integer::sum) <= 8, place);
        }

        void telling() {
            Token first = now();
            if (first.is("cell")) {
                room(text.cells.size() < 12, first.place);
                at++;
                String name = newName();
                text.cells.add(new Cell(name, number(1, 9), number(0, 9999)));
                told.add(name);
            } else if (first.is("pass")) {
                room(text.passes.size() < 20, first.place);
                at++;
                int from = cellNamed();
                int place = now().place;
                int to = cellNamed();
                if (from >= 0 && from == to) {
                    soft.add(new Fault(5, place));
                } else if (from >= 0 && to >= 0) {
                    way(from, first.place);
                    way(to, first.place);
                }
                text.passes.add(new Pass(from, to, number(1, 10)));
            } else if (first.is("river")) {
                room(text.rivers.size() < 3, first.place);
                at++;
                int cell = cellNamed();
                if (cell >= 0) {
                    way(cell, first.place);
                }
                text.rivers.add(new River(cell, number(0, 999), number(1, 10), number(0, 99)));
            } else if (first.is("rain")) {
                at++;
                text.rain = new ArrayList<>();
                while (now().isInt()) {
                    room(text.rain.size() < 14, now().place);
                    text.rain.add(number(0, 99));
                }
            } else {
                take(first.is("village"));
                room(text.villages.size() < 6, first.place);
                String name = newName();
                int cell = cellNamed();
                int need = number(0, 99);
                sign("=");
                Node law = sum(0);
                text.villages.add(new Village(name, cell, need, law));
                told.add(name);
            }
            sign(";");
        }

        Node sum(int depth) {
            Node left = product(depth);
            while (now().is("+") || now().is("-")) {
                String op = take(true).text;
                left = new Node(op, 0, left, product(depth));
            }
            return left;
        }

        Node product(int depth) {
            Node left = unit(depth);
            while (now().is("*") || now().is("/")) {
                String op = take(true).text;
                left = new Node(op, 0, left, unit(depth));
            }
            return left;
        }

        Node unit(int depth) {
            Token t = now();
            if (t.isInt()) {
                return new Node("int", number(0, 9999), null, null);
            }
            if (t.is("at")) {
                at++;
                return new Node("at", cellNamed(), null, null);
            }
            if (t.is("(")) {
                room(depth < 6, t.place);
                at++;
                Node inner = sum(depth + 1);
                sign(")");
                return inner;
            }
            take(t.is("seen") || t.is("day") || t.is("today") || t.is("took") || t.is("dry"));
            return new Node(t.text, 0, null, null);
        }
    }

    // ---- days

    static final class State {
        int day = 0;
        final List<BigInteger> salt = new ArrayList<>();
        final List<Long> water = new ArrayList<>();
        final List<Long> seen = new ArrayList<>();
        final List<Long> took = new ArrayList<>();
        final List<Long> total = new ArrayList<>();
        final List<List<Integer>> dryDays = new ArrayList<>();

        State(Text text) {
            for (Cell c : text.cells) {
                salt.add(BigInteger.ZERO);
                water.add((long) c.water);
                seen.add(0L);
            }
            for (int v = 0; v < text.villages.size(); v++) {
                took.add(0L);
                total.add(0L);
                dryDays.add(new ArrayList<>());
            }
        }

        State(State s) {
            day = s.day;
            salt.addAll(s.salt);
            water.addAll(s.water);
            seen.addAll(s.seen);
            took.addAll(s.took);
            total.addAll(s.total);
            for (List<Integer> days : s.dryDays) {
                dryDays.add(new ArrayList<>(days));
            }
        }
    }

    /** What is other than the text tells. */
    static final class Other {
        final Map<Integer, Integer> width = new TreeMap<>();
        final Map<Integer, Integer> wants = new TreeMap<>();
        final Map<Integer, Integer> rain = new TreeMap<>();
        int idle = 0;
        int dam = -1;
        int[] pump = null;
        /** A village that is looked at each day, though it may take nothing, and on how many days it lacked. */
        int watched = -1;
        int lacked = 0;
        long rained = 0;
        long taken = 0;
        long byRivers = 0;
    }

    Text text = new Text();
    State now = new State(text);
    State[] slots = new State[3];
    final StringBuilder tape = new StringBuilder();
    int faultPlace = -1;
    final List<int[]> told = new ArrayList<>();

    long level(State s, int cell) {
        return s.water.get(cell) / text.cells.get(cell).room;
    }

    long salty(State s, int cell) {
        if (s.water.get(cell) == 0) {
            return 0;
        }
        BigInteger salty = s.salt.get(cell).multiply(BigInteger.valueOf(100)).divide(BigInteger.valueOf(s.water.get(cell)));
        return salty.min(BigInteger.valueOf(1000000000)).longValueExact();
    }

    long rainOf(int day, Other o) {
        if (text.rain.isEmpty()) {
            return 0;
        }
        int i = day % text.rain.size();
        return o.rain.getOrDefault(i, text.rain.get(i));
    }

    int eval(Node n, State s, int v, int today) throws DividesByNothing {
        switch (n.kind) {
            case "int": return n.number;
            case "seen": return s.seen.get(text.villages.get(v).cell).intValue();
            case "at": return s.seen.get(n.number).intValue();
            case "day": return s.day;
            case "today": return today;
            case "took": return s.took.get(v).intValue();
            case "dry": return s.dryDays.get(v).size();
            default: break;
        }
        int a = eval(n.left, s, v, today);
        int b = eval(n.right, s, v, today);
        switch (n.kind) {
            case "+": return a + b;
            case "-": return a - b;
            case "*": return a * b;
            default: break;
        }
        if (b == 0) {
            throw new DividesByNothing();
        }
        return a / b;
    }

    long wanted(State s, int v, long today) {
        int law;
        try {
            law = eval(text.villages.get(v).law, s, v, (int) today);
        } catch (DividesByNothing e) {
            law = 0;
        }
        return Math.max(0, Math.min(999, law));
    }

    void morning(State s, Other o) {
        for (int c = 0; c < text.cells.size(); c++) {
            if (s.day % 7 == 0) {
                s.seen.set(c, level(s, c));
            }
        }
        for (int c = 0; c < text.cells.size(); c++) {
            s.water.set(c, s.water.get(c) + rainOf(s.day, o));
            o.rained += rainOf(s.day, o);
        }
    }

    BigInteger along(State s, int cell, long amount) {
        return amount == 0 ? BigInteger.ZERO
            : s.salt.get(cell).multiply(BigInteger.valueOf(amount)).divide(BigInteger.valueOf(s.water.get(cell)));
    }

    void draw(State s, int cell, long amount) {
        s.salt.set(cell, s.salt.get(cell).subtract(along(s, cell, amount)));
        s.water.set(cell, s.water.get(cell) - amount);
    }

    void villages(State s, Other o) {
        for (int v = 0; v < text.villages.size(); v++) {
            Village it = text.villages.get(v);
            long there = s.water.get(it.cell);
            if ((o.idle >> v & 1) != 0) {
                s.took.set(v, 0L);
                o.lacked += v == o.watched && there < it.need ? 1 : 0;
                continue;
            }
            long want = o.wants.containsKey(v) ? o.wants.get(v) : wanted(s, v, rainOf(s.day, o));
            long takes = Math.min(want, there);
            draw(s, it.cell, takes);
            s.took.set(v, takes);
            s.total.set(v, s.total.get(v) + takes);
            o.taken += takes;
            if (takes < it.need) {
                s.dryDays.get(v).add(s.day);
                o.lacked += v == o.watched ? 1 : 0;
            }
        }
        if (o.pump != null && s.day >= o.pump[2] && s.day <= o.pump[3]) {
            draw(s, o.pump[0], Math.min(o.pump[1], s.water.get(o.pump[0])));
        }
    }

    long passFlow(State s, int p, Other o) {
        Pass it = text.passes.get(p);
        return (level(s, it.from) - level(s, it.to)) * o.width.getOrDefault(p, it.width) / 100;
    }

    long riverFlow(State s, int r, Other o) {
        River it = text.rivers.get(r);
        return r == o.dam ? 0 : (it.level - level(s, it.cell)) * it.width / 100;
    }

    void come(State s, int cell, long water, BigInteger salt) {
        s.water.set(cell, s.water.get(cell) + water);
        s.salt.set(cell, s.salt.get(cell).add(salt));
    }

    void day(State s, Other o) {
        morning(s, o);
        villages(s, o);
        State behind = new State(s);
        for (int p = 0; p < text.passes.size(); p++) {
            long amount = passFlow(behind, p, o);
            Pass it = text.passes.get(p);
            int from = amount < 0 ? it.to : it.from;
            int to = amount < 0 ? it.from : it.to;
            BigInteger salt = along(behind, from, Math.abs(amount));
            come(s, from, -Math.abs(amount), salt.negate());
            come(s, to, Math.abs(amount), salt);
        }
        for (int r = 0; r < text.rivers.size(); r++) {
            long amount = riverFlow(behind, r, o);
            River it = text.rivers.get(r);
            o.byRivers += amount;
            come(s, it.cell, amount, amount < 0 ? along(behind, it.cell, -amount).negate()
                : BigInteger.valueOf(amount * it.salt));
        }
        s.day++;
    }

    State ahead(int n, Other o) {
        State s = new State(now);
        for (int i = 0; i < n; i++) {
            day(s, o);
        }
        return s;
    }

    /** The days on which a village is dry in n days, from now on. */
    List<Integer> dryIn(int v, int n, Other o) {
        List<Integer> all = ahead(n, o).dryDays.get(v);
        List<Integer> days = new ArrayList<>();
        for (int d : all.subList(now.dryDays.get(v).size(), all.size())) {
            days.add(d - now.day);
        }
        return days;
    }

    // ---- what there is

    boolean isCell(int c) {
        return c >= 0 && c < text.cells.size();
    }

    boolean isPass(int p) {
        return p >= 0 && p < text.passes.size();
    }

    boolean isVillage(int v) {
        return v >= 0 && v < text.villages.size();
    }

    boolean isAhead(int n) {
        return n >= 1 && n <= 200;
    }

    boolean isKnown(int k) {
        return k >= 0 && k <= told.size();
    }

    // ---- the face

    long feed(int... words) {
        if (tape.length() + 20 > 2000) {
            return -1;
        }
        for (int w : words) {
            for (int shift = 24; shift >= 0; shift -= 8) {
                tape.append((char) (w >>> shift & 255));
            }
        }
        return tape.length();
    }

    long back(int n) {
        if (n < 0 || n > tape.length()) {
            return -1;
        }
        tape.setLength(tape.length() - n);
        return tape.length();
    }

    long read() {
        Parser parser = new Parser(tape.toString());
        Fault fault = parser.parse();
        tape.setLength(0);
        faultPlace = fault == null ? -1 : fault.place;
        if (fault != null) {
            return fault.number;
        }
        text = parser.text;
        now = new State(text);
        slots = new State[3];
        told.clear();
        return 0;
    }

    long cell(int c, int what) {
        if (!isCell(c)) {
            return -1;
        }
        long ways = 0;
        for (Pass p : text.passes) {
            ways += p.from == c || p.to == c ? 1 : 0;
        }
        for (River r : text.rivers) {
            ways += r.cell == c ? 1 : 0;
        }
        long[] all = {now.water.get(c), level(now, c), now.seen.get(c), now.salt.get(c).longValueExact(),
            salty(now, c), text.cells.get(c).room, ways};
        return what < 0 || what >= all.length ? -1 : all[what];
    }

    long village(int v, int what) {
        if (!isVillage(v)) {
            return -1;
        }
        List<Integer> days = now.dryDays.get(v);
        long[] all = {now.took.get(v), days.size(), days.isEmpty() ? -2 : days.get(0), text.villages.get(v).cell,
            text.villages.get(v).need, now.total.get(v)};
        return what < 0 || what >= all.length ? -1 : all[what];
    }

    long want(int v) {
        if (!isVillage(v)) {
            return -1;
        }
        State s = new State(now);
        Other o = new Other();
        morning(s, o);
        return wanted(s, v, rainOf(s.day, o));
    }

    long run(int n) {
        if (n < 0 || n > 400) {
            return -1;
        }
        now = ahead(n, new Other());
        return now.day;
    }

    long flow(int way, boolean rivers) {
        if (way < 0 || way >= (rivers ? text.rivers.size() : text.passes.size())) {
            return -1000000;
        }
        State s = new State(now);
        Other o = new Other();
        morning(s, o);
        villages(s, o);
        return rivers ? riverFlow(s, way, o) : passFlow(s, way, o);
    }

    long pour(int c, int water) {
        if (!isCell(c) || water < 0 || water > 9999) {
            return 0;
        }
        now.water.set(c, (long) water);
        return 1;
    }

    long dry(int v, int n) {
        if (!isVillage(v) || !isAhead(n)) {
            return -1;
        }
        List<Integer> days = dryIn(v, n, new Other());
        return days.isEmpty() ? -2 : days.get(0);
    }

    long dries(int v, int n) {
        return !isVillage(v) || !isAhead(n) ? -1 : dryIn(v, n, new Other()).size();
    }

    long salty(int c, int t, int n) {
        if (!isCell(c) || t < 1 || t > 9999 || !isAhead(n)) {
            return -1;
        }
        for (int days = 1; days <= n; days++) {
            if (salty(ahead(days, new Other()), c) >= t) {
                return days;
            }
        }
        return -2;
    }

    Other changed(int what, int which) {
        Other o = new Other();
        if (what == 0 && isVillage(which)) {
            o.idle = 1 << which;
        } else if (what == 1 && isPass(which)) {
            o.width.put(which, 0);
        } else if (what == 2 && which >= 0 && which < text.rivers.size()) {
            o.dam = which;
        } else {
            return null;
        }
        return o;
    }

    long effect(int what, int which, int c, int n) {
        Other o = changed(what, which);
        if (o == null || !isCell(c) || !isAhead(n)) {
            return -1000000;
        }
        return level(ahead(n, o), c) - level(ahead(n, new Other()), c);
    }

    long saved(int what, int which, int v, int n) {
        Other o = changed(what, which);
        if (o == null || !isVillage(v) || !isAhead(n) || what == 0 && which == v) {
            return -1000000;
        }
        return dryIn(v, n, new Other()).size() - dryIn(v, n, o).size();
    }

    boolean takesAlways(int v, int x, int n, Other o) {
        State s = new State(now);
        for (int i = 0; i < n; i++) {
            day(s, o);
            if (s.took.get(v) != x) {
                return false;
            }
        }
        return true;
    }

    boolean allTake(int n, Other o) {
        for (int v = 0; v < text.villages.size(); v++) {
            if (!takesAlways(v, o.wants.get(v), n, o)) {
                return false;
            }
        }
        return true;
    }

    long fairest(int n) {
        long best = -1;
        for (int x = 0; x <= 99 && isAhead(n) && !text.villages.isEmpty(); x++) {
            Other o = new Other();
            for (int v = 0; v < text.villages.size(); v++) {
                o.wants.put(v, x);
            }
            best = allTake(n, o) ? x : best;
        }
        return best;
    }

    long share(int n) {
        long best = -1;
        for (int p = 0; p <= 100 && isAhead(n) && !text.villages.isEmpty(); p++) {
            Other o = new Other();
            for (int v = 0; v < text.villages.size(); v++) {
                o.wants.put(v, text.villages.get(v).need * p / 100);
            }
            best = allTake(n, o) ? p : best;
        }
        return best;
    }

    long most(int v, int n) {
        if (!isVillage(v) || !isAhead(n)) {
            return -1;
        }
        long best = -2;
        for (int x = 0; x <= 99; x++) {
            Other o = new Other();
            o.wants.put(v, x);
            boolean good = takesAlways(v, x, n, o);
            for (int u = 0; u < text.villages.size() && good; u++) {
                good = u == v || dryIn(u, n, o).isEmpty();
            }
            best = good ? x : best;
        }
        return best;
    }

    long firstOf(int n) {
        if (!isAhead(n)) {
            return -1;
        }
        int best = -2;
        int when = 1000;
        for (int v = 0; v < text.villages.size(); v++) {
            List<Integer> days = dryIn(v, n, new Other());
            if (!days.isEmpty() && days.get(0) < when) {
                when = days.get(0);
                best = v;
            }
        }
        return best;
    }

    long shut(int v, int n) {
        if (!isVillage(v) || !isAhead(n)) {
            return -1;
        }
        int best = -2;
        for (int set = 0; set < 1 << text.villages.size(); set++) {
            Other o = new Other();
            o.idle = set;
            if ((set >> v & 1) == 0 && dryIn(v, n, o).isEmpty()
                && (best < 0 || Integer.bitCount(set) < Integer.bitCount(best))) {
                best = set;
            }
        }
        return best;
    }

    long balance(int n, int what) {
        if (!isAhead(n) || what < 0 || what > 3) {
            return -1000000;
        }
        Other o = new Other();
        State s = ahead(n, o);
        long[] all = {o.rained, o.taken, o.byRivers, allWater(s) - allWater(now)};
        return all[what];
    }

    long allWater(State s) {
        return s.water.stream().mapToLong(Long::longValue).sum();
    }

    int partsWithout(int left) {
        int n = text.cells.size();
        boolean[][] joined = new boolean[n][n];
        for (int c = 0; c < n; c++) {
            joined[c][c] = true;
        }
        for (int p = 0; p < text.passes.size(); p++) {
            if (p != left) {
                joined[text.passes.get(p).from][text.passes.get(p).to] = true;
                joined[text.passes.get(p).to][text.passes.get(p).from] = true;
            }
        }
        for (int k = 0; k < n; k++) {
            for (int i = 0; i < n; i++) {
                for (int j = 0; j < n; j++) {
                    joined[i][j] |= joined[i][k] && joined[k][j];
                }
            }
        }
        int parts = 0;
        for (int i = 0; i < n; i++) {
            boolean first = true;
            for (int j = 0; j < i; j++) {
                first &= !joined[i][j];
            }
            parts += first ? 1 : 0;
        }
        return parts;
    }

    long parts() {
        return partsWithout(-1);
    }

    long bridges() {
        int bits = 0;
        for (int p = 0; p < text.passes.size(); p++) {
            bits |= partsWithout(p) > partsWithout(-1) ? 1 << p : 0;
        }
        return bits;
    }

    long worth(int v, int set, int n) {
        int all = (1 << text.villages.size()) - 1;
        if (!isVillage(v) || set < 0 || set > all || !isAhead(n)) {
            return -1;
        }
        Other o = new Other();
        o.idle = all & ~set;
        o.watched = v;
        ahead(n, o);
        return o.lacked;
    }

    long blame(int v, int u, int n) {
        if (!isVillage(v) || !isVillage(u) || !isAhead(n)) {
            return -1000000;
        }
        return blameBehind(0, v, u, n, new TreeMap<>());
    }

    /** Over all orders that begin with a set (in some one order). */
    long blameBehind(int ahead, int v, int u, int n, Map<Integer, Long> worths) {
        long sum = 0;
        for (int next = 0; next < text.villages.size(); next++) {
            if ((ahead >> next & 1) == 0) {
                int with = ahead | 1 << next;
                if (next == u) {
                    long more = worths.computeIfAbsent(with, s -> worth(v, s, n))
                        - worths.computeIfAbsent(ahead, s -> worth(v, s, n));
                    long orders = 1;
                    for (int i = 2; i <= text.villages.size() - Integer.bitCount(with); i++) {
                        orders *= i;
                    }
                    sum += more * orders;
                } else {
                    sum += blameBehind(with, v, u, n, worths);
                }
            }
        }
        return sum;
    }

    long tell(int day, int c, int level) {
        if (day < 0 || day > 199 || !isCell(c) || level < 0 || level > 9999 || told.size() == 20) {
            return -1;
        }
        told.add(new int[] {day, c, level});
        return told.size() - 1;
    }

    long forget() {
        int were = told.size();
        told.clear();
        return were;
    }

    /** Which of the known ones are not so, the levels of a day being put into the last row. */
    List<Integer> offs(int k, Other o, int keptDay, List<List<Long>> rows) {
        List<Integer> offs = new ArrayList<>();
        State s = new State(text);
        int last = keptDay;
        for (int i = 0; i < k; i++) {
            last = Math.max(last, told.get(i)[0]);
        }
        for (int d = 0; d <= last; d++) {
            for (int i = 0; i < k; i++) {
                int[] t = told.get(i);
                if (t[0] == d && level(s, t[1]) != t[2]) {
                    offs.add(i);
                }
            }
            if (d == keptDay) {
                List<Long> row = new ArrayList<>();
                for (int c = 0; c < text.cells.size(); c++) {
                    row.add(level(s, c));
                }
                rows.add(row);
            }
            day(s, o);
        }
        return offs;
    }

    boolean fits(int k, Other o) {
        return offs(k, o, -1, null).isEmpty();
    }

    long off(int k) {
        if (!isKnown(k)) {
            return -1;
        }
        return offs(k, new Other(), -1, null).stream().min(Integer::compare).orElse(-2);
    }

    long span(int p, int k) {
        if (!isPass(p) || !isKnown(k)) {
            return -1;
        }
        List<Integer> good = new ArrayList<>();
        for (int w = 0; w <= 10; w++) {
            Other o = new Other();
            o.width.put(p, w);
            if (fits(k, o)) {
                good.add(w);
            }
        }
        return good.isEmpty() ? -2 : 100 * good.get(0) + good.get(good.size() - 1);
    }

    long rainSpan(int i, int k) {
        if (i < 0 || i >= text.rain.size() || !isKnown(k)) {
            return -1;
        }
        List<Integer> good = new ArrayList<>();
        for (int w = 0; w <= 99; w++) {
            Other o = new Other();
            o.rain.put(i, w);
            if (fits(k, o)) {
                good.add(w);
            }
        }
        return good.isEmpty() ? -2 : 100 * good.get(0) + good.get(good.size() - 1);
    }

    List<Integer> fittingPairs(int p, int q, int k, int day, List<List<Long>> rows) {
        List<Integer> good = new ArrayList<>();
        for (int w = 0; w <= 10; w++) {
            for (int u = 0; u <= 10; u++) {
                Other o = new Other();
                o.width.put(p, w);
                o.width.put(q, u);
                List<List<Long>> row = new ArrayList<>();
                if (offs(k, o, day, row).isEmpty()) {
                    good.add(100 * w + u);
                    rows.addAll(row);
                }
            }
        }
        return good;
    }

    long pairs(int p, int q, int k, int what) {
        if (!isPass(p) || !isPass(q) || p == q || !isKnown(k) || what < 0 || what > 1) {
            return -1;
        }
        List<Integer> good = fittingPairs(p, q, k, -1, new ArrayList<>());
        return what == 0 ? good.size() : good.isEmpty() ? -2 : good.get(0);
    }

    long test(int p, int q, int k, int day) {
        if (!isPass(p) || !isPass(q) || p == q || !isKnown(k) || day < 0 || day > 199) {
            return -1;
        }
        List<List<Long>> rows = new ArrayList<>();
        if (fittingPairs(p, q, k, day, rows).isEmpty()) {
            return -2;
        }
        int best = -1;
        int least = 1000;
        for (int c = 0; c < text.cells.size(); c++) {
            Map<Long, Integer> counts = new TreeMap<>();
            for (List<Long> row : rows) {
                counts.merge(row.get(c), 1, Integer::sum);
            }
            int greatest = counts.values().stream().max(Integer::compare).get();
            if (greatest < least) {
                least = greatest;
                best = c;
            }
        }
        return best;
    }

    long hidden(int k, int what) {
        if (!isKnown(k) || what < 0 || what > 3) {
            return -1;
        }
        if (fits(k, new Other())) {
            return -3;
        }
        int[] best = null;
        int least = 1000;
        for (int c = 0; c < text.cells.size(); c++) {
            for (int a = 0; a <= 13; a++) {
                for (int b = a; b <= 13; b++) {
                    for (int x = 1; x <= 9; x++) {
                        Other o = new Other();
                        o.pump = new int[] {c, x, a, b};
                        if (x * (b - a + 1) < least && fits(k, o)) {
                            least = x * (b - a + 1);
                            best = o.pump;
                        }
                    }
                }
            }
        }
        return best == null ? -2 : best[what];
    }

    long hold(int slot) {
        if (slot < 0 || slot > 2) {
            return 0;
        }
        slots[slot] = new State(now);
        return 1;
    }

    long restore(int slot) {
        if (slot < 0 || slot > 2 || slots[slot] == null) {
            return 0;
        }
        now = new State(slots[slot]);
        return 1;
    }

    long count(int what) {
        int held = 0;
        for (State s : slots) {
            held += s != null ? 1 : 0;
        }
        long[] all = {text.cells.size(), text.passes.size(), text.rivers.size(), text.villages.size(), now.day,
            text.rain.size(), told.size(), tape.length(), held, allWater(now)};
        return what < 0 || what >= all.length ? -1 : all[what];
    }
}
