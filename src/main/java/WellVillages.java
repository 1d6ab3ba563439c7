import java.util.Arrays;

/** Villages that draw from one body of water: what happens by days, what would, and what the levels tell. */
public final class WellVillages {
    public static final int NONE = -1;

    private static final int NEVER = -2;
    private static final int NOT_NEEDED = -3;
    private static final int NOT_SOUGHT = -4;
    private static final int NO_ANSWER = -1000000;

    private static final int TAPE_BYTES = 2000;
    private static final int FEED_BYTES = 20;
    private static final int MAX_TOKENS = 400;
    /** A 400th TOKEN may be a pass whose two cells are read behind it; then comes an end in any case. */
    private static final int SCANNED = MAX_TOKENS + 3;
    private static final int MAX_CELLS = 12;
    private static final int MAX_PASSES = 20;
    private static final int MAX_RIVERS = 3;
    private static final int MAX_VILLAGES = 6;
    private static final int MAX_RAINS = 14;
    private static final int MAX_WAYS = 8;
    private static final int MAX_NESTING = 6;
    private static final int NAME_LETTERS = 8;
    private static final int INT_DIGITS = 4;
    private static final int MAX_INT = 9999;
    private static final String SIGNS = ";=+-*/()";
    private static final int MAX_TOLD = 20;
    private static final int MAX_WIDTH = 10;
    private static final int MAX_WATER = 9999;
    private static final int MAX_RAIN = 99;
    private static final int MAX_SALTY = 1000000000;
    private static final int MAX_ASKED_SALTY = 9999;
    private static final int MAX_TOLD_LEVEL = 9999;
    private static final int MAX_RUN = 400;
    private static final int MAX_AHEAD = 200;
    private static final int MAX_WANT = 999;
    private static final int MAX_ALIKE = 99;
    private static final int SLOTS = 3;
    private static final int WEEK = 7;
    private static final int PUMP_DAYS = 14;
    private static final int PUMP_MOST = 9;
    /** What is answered of a pump: its cell, what it takes, from when and till when. */
    private static final int PUMP_ANSWERS = 4;
    private static final int PAIRS = (MAX_WIDTH + 1) * (MAX_WIDTH + 1);

    private static final int SYNTAX = 1;
    private static final int ROOM = 2;
    private static final int TWICE = 3;
    private static final int NO_CELL = 4;
    private static final int WRONG = 5;

    /* Kinds of tokens; a sign's kind is its own byte, which is above all of these. */
    private static final int NAME = 1;
    private static final int INT = 2;
    private static final int END = 3;
    private static final int BAD = 4;
    private static final int CELL = 5;
    private static final int PASS = 6;
    private static final int RIVER = 7;
    private static final int RAIN = 8;
    private static final int VILLAGE = 9;
    private static final int AT = 10;
    private static final int SEEN = 11;
    private static final int DAY = 12;
    private static final int TODAY = 13;
    private static final int TOOK = 14;
    private static final int DRY = 15;

    /* A law is kept as postfix code: numbers stand for themselves, all else is below 0. */
    private static final int CODE_ADD = -1;
    private static final int CODE_SUBTRACT = -2;
    private static final int CODE_MULTIPLY = -3;
    private static final int CODE_DIVIDE = -4;
    private static final int CODE_DAY = -5;
    private static final int CODE_TODAY = -6;
    private static final int CODE_TOOK = -7;
    private static final int CODE_DRY = -8;
    /** Less a cell's number: what is seen of that cell. */
    private static final int CODE_LEVEL = -20;
    /** Each of the seven nestings of a law leaves two numbers open at most. */
    private static final int STACK = 2 * (MAX_NESTING + 1) + 2;

    /* What a plan lets a village want, if it is no number. */
    private static final int BY_LAW = -1;
    private static final int NOTHING = -2;

    private static final int[] ORDERS = {1, 1, 2, 6, 24, 120, 720};

    private final byte[] tape = new byte[TAPE_BYTES];
    private int length = 0;
    private int faultPlace = NONE;
    private final Reader reader = new Reader();
    private final Ground ground = new Ground();
    private final Plan plan = new Plan();
    private final Course course = new Course(ground, plan);
    private final Days now = new Days();
    private final Days trial = new Days();
    private final Days[] slots = new Days[SLOTS];
    private final boolean[] held = new boolean[SLOTS];
    private final Evidence evidence = new Evidence(ground);

    public WellVillages() {
        for (int i = 0; i < SLOTS; i++) {
            slots[i] = new Days();
        }
        startAnew();
    }

    // ---- the tape and its text

    public int feed(int a, int b, int c, int d, int e) {
        if (length > TAPE_BYTES - FEED_BYTES) {
            return NONE;
        }
        append(a);
        append(b);
        append(c);
        append(d);
        append(e);
        return length;
    }

    private void append(int word) {
        for (int shift = 24; shift >= 0 && length < TAPE_BYTES; shift -= 8) {
            tape[length] = (byte) (word >> shift);
            length++;
        }
    }

    public int back(int n) {
        if (n < 0 || n > length) {
            return NONE;
        }
        length -= n;
        return length;
    }

    public int read() {
        int fault = reader.readAll(tape, length);
        faultPlace = reader.placeOfFault();
        length = 0;
        if (fault == 0) {
            ground.become(reader.ground);
            startAnew();
        }
        return fault;
    }

    private void startAnew() {
        now.begin(ground);
        evidence.clear();
        for (int i = 0; i < SLOTS; i++) {
            held[i] = false;
        }
    }

    public int place() {
        return faultPlace;
    }

    // ---- what is

    public int cell(int cell, int what) {
        if (!isCell(cell)) {
            return NONE;
        }
        switch (what) {
            case 0: return now.water[cell];
            case 1: return ground.levelOf(cell, now.water[cell]);
            case 2: return now.seen[cell];
            case 3: return (int) now.salt[cell];
            case 4: return now.saltyOf(cell);
            case 5: return ground.room[cell];
            case 6: return ground.ways[cell];
            default: return NONE;
        }
    }

    public int village(int village, int what) {
        if (!isVillage(village)) {
            return NONE;
        }
        switch (what) {
            case 0: return now.took[village];
            case 1: return now.dryDays[village];
            case 2: return now.firstDry[village];
            case 3: return ground.villageCell[village];
            case 4: return ground.need[village];
            case 5: return now.total[village];
            default: return NONE;
        }
    }

    public int want(int village) {
        if (!isVillage(village)) {
            return NONE;
        }
        tryAsTold();
        course.morning(trial);
        return course.wantOf(trial, village);
    }

    public int count(int what) {
        switch (what) {
            case 0: return ground.cells;
            case 1: return ground.passes;
            case 2: return ground.rivers;
            case 3: return ground.villages;
            case 4: return now.day;
            case 5: return ground.rains;
            case 6: return evidence.told;
            case 7: return length;
            case 8: return slotsHeld();
            case 9: return now.allWater(ground.cells);
            default: return NONE;
        }
    }

    private int slotsHeld() {
        int sum = 0;
        for (int i = 0; i < SLOTS; i++) {
            if (held[i]) {
                sum++;
            }
        }
        return sum;
    }

    // ---- what happens

    public int run(int n) {
        if (n < 0 || n > MAX_RUN) {
            return NONE;
        }
        plan.setAsTold(ground);
        for (int i = 0; i < n; i++) {
            course.oneDay(now);
        }
        return now.day;
    }

    public boolean pour(int cell, int water) {
        if (!isCell(cell) || water < 0 || water > MAX_WATER) {
            return false;
        }
        now.water[cell] = water;
        return true;
    }

    public boolean hold(int slot) {
        if (!isSlot(slot)) {
            return false;
        }
        slots[slot].become(now);
        held[slot] = true;
        return true;
    }

    public boolean restore(int slot) {
        if (!isSlot(slot) || !held[slot]) {
            return false;
        }
        now.become(slots[slot]);
        return true;
    }

    // ---- what would be

    public int flow(int way, boolean rivers) {
        if (way < 0 || way >= (rivers ? ground.rivers : ground.passes)) {
            return NO_ANSWER;
        }
        tryAsTold();
        course.morning(trial);
        course.takeTurns(trial);
        course.lookAtLevels(trial);
        return rivers ? course.riverFlow(way) : course.passFlow(way);
    }

    public int dry(int village, int n) {
        if (!isVillage(village) || !isAhead(n)) {
            return NONE;
        }
        tryAsTold();
        for (int i = 0; i < n; i++) {
            course.oneDay(trial);
            if (course.lacked[village]) {
                return i;
            }
        }
        return NEVER;
    }

    public int dries(int village, int n) {
        if (!isVillage(village) || !isAhead(n)) {
            return NONE;
        }
        tryAsTold();
        return lackingDays(village, n);
    }

    public int salty(int cell, int t, int n) {
        if (!isCell(cell) || t < 1 || t > MAX_ASKED_SALTY || !isAhead(n)) {
            return NONE;
        }
        tryAsTold();
        for (int i = 1; i <= n; i++) {
            course.oneDay(trial);
            if (trial.saltyOf(cell) >= t) {
                return i;
            }
        }
        return NEVER;
    }

    public int effect(int what, int which, int cell, int n) {
        if (!isChange(what, which) || !isCell(cell) || !isAhead(n)) {
            return NO_ANSWER;
        }
        tryAsTold();
        int without = levelBehind(cell, n);
        tryAsTold();
        plan.change(what, which);
        return levelBehind(cell, n) - without;
    }

    public int saved(int what, int which, int village, int n) {
        if (!isChange(what, which) || !isVillage(village) || !isAhead(n)) {
            return NO_ANSWER;
        }
        if (what == 0 && which == village) {
            return NO_ANSWER;
        }
        tryAsTold();
        int without = lackingDays(village, n);
        tryAsTold();
        plan.change(what, which);
        return without - lackingDays(village, n);
    }

    public int fairest(int n) {
        if (!isAhead(n) || ground.villages == 0) {
            return NONE;
        }
        for (int x = MAX_ALIKE; x >= 0; x--) {
            tryAsTold();
            for (int v = 0; v < ground.villages; v++) {
                plan.wanting[v] = x;
            }
            if (allTakeTheirs(n)) {
                return x;
            }
        }
        return NONE;
    }

    public int share(int n) {
        if (!isAhead(n) || ground.villages == 0) {
            return NONE;
        }
        for (int p = 100; p >= 0; p--) {
            tryAsTold();
            for (int v = 0; v < ground.villages; v++) {
                plan.wanting[v] = ground.need[v] * p / 100;
            }
            if (allTakeTheirs(n)) {
                return p;
            }
        }
        return NONE;
    }

    public int most(int village, int n) {
        if (!isVillage(village) || !isAhead(n)) {
            return NONE;
        }
        for (int x = MAX_ALIKE; x >= 0; x--) {
            tryAsTold();
            plan.wanting[village] = x;
            if (takesAndDriesNone(village, n)) {
                return x;
            }
        }
        return NEVER;
    }

    public int firstOf(int n) {
        if (!isAhead(n)) {
            return NONE;
        }
        tryAsTold();
        for (int i = 0; i < n; i++) {
            course.oneDay(trial);
            for (int v = 0; v < ground.villages; v++) {
                if (course.lacked[v]) {
                    return v;
                }
            }
        }
        return NEVER;
    }

    public int shut(int village, int n) {
        if (!isVillage(village) || !isAhead(n)) {
            return NONE;
        }
        int all = allVillages();
        for (int size = 0; size < ground.villages; size++) {
            for (int set = 0; set <= all; set++) {
                boolean candidate = Integer.bitCount(set) == size && !has(set, village);
                if (candidate && sparedBy(set, village, n)) {
                    return set;
                }
            }
        }
        return NEVER;
    }

    private boolean sparedBy(int closed, int village, int n) {
        tryAsTold();
        plan.letTake(allVillages() & ~closed);
        for (int i = 0; i < n; i++) {
            course.oneDay(trial);
            if (course.lacked[village]) {
                return false;
            }
        }
        return true;
    }

    public int balance(int n, int what) {
        if (!isAhead(n) || what < 0 || what > 3) {
            return NO_ANSWER;
        }
        tryAsTold();
        int rain = 0;
        int taken = 0;
        for (int i = 0; i < n; i++) {
            rain += course.rainOf(trial.day) * ground.cells;
            course.oneDay(trial);
            for (int v = 0; v < ground.villages; v++) {
                taken += trial.took[v];
            }
        }
        int more = trial.allWater(ground.cells) - now.allWater(ground.cells);
        switch (what) {
            case 0: return rain;
            case 1: return taken;
            case 2: return more - rain + taken; // no water comes or goes otherwise
            default: return more;
        }
    }

    public int parts() {
        return ground.bodiesWithout(NONE);
    }

    public int bridges() {
        int whole = ground.bodiesWithout(NONE);
        int bits = 0;
        for (int p = 0; p < ground.passes; p++) {
            if (ground.bodiesWithout(p) > whole) {
                bits |= 1 << p;
            }
        }
        return bits;
    }

    public int worth(int village, int set, int n) {
        if (!isVillage(village) || set < 0 || set > allVillages() || !isAhead(n)) {
            return NONE;
        }
        return worthOf(village, set, n);
    }

    public int blame(int v, int u, int n) {
        if (!isVillage(v) || !isVillage(u) || !isAhead(n)) {
            return NO_ANSWER;
        }
        int all = allVillages();
        int sum = 0;
        for (int set = 0; set <= all; set++) {
            if (!has(set, u)) {
                int more = worthOf(v, set | 1 << u, n) - worthOf(v, set, n);
                sum += more * ordersWithAhead(Integer.bitCount(set));
            }
        }
        return sum;
    }

    /** In how many orders just one certain set of that size stands ahead of one certain village. */
    private int ordersWithAhead(int size) {
        int behind = ground.villages - 1 - size;
        if (size < 0 || size >= ORDERS.length || behind < 0 || behind >= ORDERS.length) {
            return 0;
        }
        return ORDERS[size] * ORDERS[behind];
    }

    private int worthOf(int village, int set, int n) {
        tryAsTold();
        plan.letTake(set);
        return lackingDays(village, n);
    }

    // ---- what the levels tell

    public int tell(int day, int cell, int level) {
        if (day < 0 || day >= MAX_AHEAD || !isCell(cell) || level < 0 || level > MAX_TOLD_LEVEL) {
            return NONE;
        }
        return evidence.add(day, cell, level);
    }

    public int forget() {
        int were = evidence.told;
        evidence.clear();
        return were;
    }

    public int off(int k) {
        if (!isKnown(k)) {
            return NONE;
        }
        return evidence.firstOff(k);
    }

    public int span(int pass, int k) {
        if (!isPass(pass) || !isKnown(k)) {
            return NONE;
        }
        return evidence.spanOfPass(pass, k);
    }

    public int rainSpan(int i, int k) {
        if (i < 0 || i >= ground.rains || !isKnown(k)) {
            return NONE;
        }
        return evidence.spanOfRain(i, k);
    }

    public int pairs(int pass, int other, int k, int what) {
        if (!arePair(pass, other) || !isKnown(k) || what < 0 || what > 1) {
            return NONE;
        }
        evidence.fitPairs(pass, other, k, NONE);
        return what == 0 ? evidence.fitting : evidence.firstPair;
    }

    public int test(int pass, int other, int k, int day) {
        if (!arePair(pass, other) || !isKnown(k) || day < 0 || day >= MAX_AHEAD) {
            return NONE;
        }
        evidence.fitPairs(pass, other, k, day);
        return evidence.fitting == 0 ? NEVER : evidence.cellThatParts();
    }

    public int hidden(int k, int what) {
        if (!isKnown(k) || what < 0 || what > 3) {
            return NONE;
        }
        evidence.lookForPump(k);
        return evidence.pumpAnswer(k, what);
    }

    // ---- what there is, and what a trial needs

    private boolean isCell(int cell) {
        return cell >= 0 && cell < ground.cells;
    }

    private boolean isPass(int pass) {
        return pass >= 0 && pass < ground.passes;
    }

    private boolean isVillage(int village) {
        return village >= 0 && village < ground.villages;
    }

    private boolean isSlot(int slot) {
        return slot >= 0 && slot < SLOTS;
    }

    private boolean isAhead(int n) {
        return n >= 1 && n <= MAX_AHEAD;
    }

    private boolean isKnown(int k) {
        return k >= 0 && k <= evidence.told;
    }

    private boolean arePair(int pass, int other) {
        return isPass(pass) && isPass(other) && pass != other;
    }

    private boolean isChange(int what, int which) {
        switch (what) {
            case 0: return isVillage(which);
            case 1: return isPass(which);
            case 2: return which >= 0 && which < ground.rivers;
            default: return false;
        }
    }

    private int allVillages() {
        return (1 << ground.villages) - 1;
    }

    private static boolean has(int set, int member) {
        return (set >> member & 1) != 0;
    }

    private void tryAsTold() {
        plan.setAsTold(ground);
        trial.become(now);
    }

    private int lackingDays(int village, int n) {
        int sum = 0;
        for (int i = 0; i < n; i++) {
            course.oneDay(trial);
            if (course.lacked[village]) {
                sum++;
            }
        }
        return sum;
    }

    private int levelBehind(int cell, int n) {
        for (int i = 0; i < n; i++) {
            course.oneDay(trial);
        }
        return ground.levelOf(cell, trial.water[cell]);
    }

    private boolean allTakeTheirs(int n) {
        for (int i = 0; i < n; i++) {
            course.oneDay(trial);
            for (int v = 0; v < ground.villages; v++) {
                if (trial.took[v] != plan.wanting[v]) {
                    return false;
                }
            }
        }
        return true;
    }

    private boolean takesAndDriesNone(int village, int n) {
        for (int i = 0; i < n; i++) {
            course.oneDay(trial);
            if (trial.took[village] != plan.wanting[village]) {
                return false;
            }
            for (int v = 0; v < ground.villages; v++) {
                if (v != village && course.lacked[v]) {
                    return false;
                }
            }
        }
        return true;
    }

    // ---- the classes inside

    /** What a text tells. */
    private static final class Ground {
        int cells = 0;
        final int[] room = new int[MAX_CELLS];
        final int[] water = new int[MAX_CELLS];
        final int[] ways = new int[MAX_CELLS];
        int passes = 0;
        final int[] passFrom = new int[MAX_PASSES];
        final int[] passTo = new int[MAX_PASSES];
        final int[] passWidth = new int[MAX_PASSES];
        int rivers = 0;
        final int[] riverCell = new int[MAX_RIVERS];
        final int[] riverLevel = new int[MAX_RIVERS];
        final int[] riverWidth = new int[MAX_RIVERS];
        final int[] riverSalt = new int[MAX_RIVERS];
        int villages = 0;
        final int[] villageCell = new int[MAX_VILLAGES];
        final int[] need = new int[MAX_VILLAGES];
        /** Where a village's law ends in the code; it begins where that of the village ahead ends. */
        final int[] lawEnd = new int[MAX_VILLAGES];
        final int[] code = new int[MAX_TOKENS];
        int rains = 0;
        final int[] rain = new int[MAX_RAINS];

        void clear() {
            cells = 0;
            passes = 0;
            rivers = 0;
            villages = 0;
            rains = 0;
            Arrays.fill(ways, 0);
        }

        void become(Ground other) {
            cells = other.cells;
            System.arraycopy(other.room, 0, room, 0, MAX_CELLS);
            System.arraycopy(other.water, 0, water, 0, MAX_CELLS);
            System.arraycopy(other.ways, 0, ways, 0, MAX_CELLS);
            passes = other.passes;
            System.arraycopy(other.passFrom, 0, passFrom, 0, MAX_PASSES);
            System.arraycopy(other.passTo, 0, passTo, 0, MAX_PASSES);
            System.arraycopy(other.passWidth, 0, passWidth, 0, MAX_PASSES);
            rivers = other.rivers;
            System.arraycopy(other.riverCell, 0, riverCell, 0, MAX_RIVERS);
            System.arraycopy(other.riverLevel, 0, riverLevel, 0, MAX_RIVERS);
            System.arraycopy(other.riverWidth, 0, riverWidth, 0, MAX_RIVERS);
            System.arraycopy(other.riverSalt, 0, riverSalt, 0, MAX_RIVERS);
            villages = other.villages;
            System.arraycopy(other.villageCell, 0, villageCell, 0, MAX_VILLAGES);
            System.arraycopy(other.need, 0, need, 0, MAX_VILLAGES);
            System.arraycopy(other.lawEnd, 0, lawEnd, 0, MAX_VILLAGES);
            System.arraycopy(other.code, 0, code, 0, MAX_TOKENS);
            rains = other.rains;
            System.arraycopy(other.rain, 0, rain, 0, MAX_RAINS);
        }

        int levelOf(int cell, int amount) {
            return room[cell] < 1 ? 0 : amount / room[cell];
        }

        int lawBegin(int village) {
            return village < 1 ? 0 : lawEnd[village - 1];
        }

        /** How many bodies of water there are if one pass is left out. */
        int bodiesWithout(int left) {
            int bodies = 0;
            int reached = 0;
            for (int c = 0; c < cells; c++) {
                if (!has(reached, c)) {
                    bodies++;
                    reached |= bodyOf(c, left);
                }
            }
            return bodies;
        }

        private int bodyOf(int cell, int left) {
            int body = 1 << cell;
            // a body's farthest cell is reached in fewer rounds than there are cells
            for (int round = 0; round < cells; round++) {
                for (int p = 0; p < passes; p++) {
                    int ends = 1 << passFrom[p] | 1 << passTo[p];
                    if (p != left && (body & ends) != 0) {
                        body |= ends;
                    }
                }
            }
            return body;
        }
    }

    /** All of the days: what changes from day to day. */
    private static final class Days {
        int day = 0;
        final int[] water = new int[MAX_CELLS];
        final long[] salt = new long[MAX_CELLS];
        final int[] seen = new int[MAX_CELLS];
        final int[] took = new int[MAX_VILLAGES];
        final int[] dryDays = new int[MAX_VILLAGES];
        final int[] firstDry = new int[MAX_VILLAGES];
        final int[] total = new int[MAX_VILLAGES];

        void begin(Ground ground) {
            day = 0;
            System.arraycopy(ground.water, 0, water, 0, MAX_CELLS);
            Arrays.fill(salt, 0L);
            Arrays.fill(seen, 0);
            Arrays.fill(took, 0);
            Arrays.fill(dryDays, 0);
            Arrays.fill(firstDry, NEVER);
            Arrays.fill(total, 0);
        }

        void become(Days other) {
            day = other.day;
            System.arraycopy(other.water, 0, water, 0, MAX_CELLS);
            System.arraycopy(other.salt, 0, salt, 0, MAX_CELLS);
            System.arraycopy(other.seen, 0, seen, 0, MAX_CELLS);
            System.arraycopy(other.took, 0, took, 0, MAX_VILLAGES);
            System.arraycopy(other.dryDays, 0, dryDays, 0, MAX_VILLAGES);
            System.arraycopy(other.firstDry, 0, firstDry, 0, MAX_VILLAGES);
            System.arraycopy(other.total, 0, total, 0, MAX_VILLAGES);
        }

        int allWater(int cells) {
            int sum = 0;
            for (int c = 0; c < cells; c++) {
                sum += water[c];
            }
            return sum;
        }

        int saltyOf(int cell) {
            if (water[cell] < 1) {
                return 0;
            }
            return (int) Math.min(MAX_SALTY, salt[cell] * 100 / water[cell]);
        }

        void countDry(int village) {
            if (dryDays[village] == 0) {
                firstDry[village] = day;
            }
            dryDays[village]++;
        }

        /** Takes water from a cell, and the salt in it along. */
        void draw(int cell, int amount) {
            if (amount < 1 || water[cell] < 1) {
                return;
            }
            salt[cell] -= salt[cell] * amount / water[cell];
            water[cell] -= amount;
        }
    }

    /** What a run of days goes by, where it may be other than the text tells. */
    private static final class Plan {
        final int[] wanting = new int[MAX_VILLAGES];
        final int[] passWidth = new int[MAX_PASSES];
        final int[] riverWidth = new int[MAX_RIVERS];
        final int[] rain = new int[MAX_RAINS];
        int pumpCell = NONE;
        int pumpTakes = 0;
        int pumpFrom = 0;
        int pumpTo = 0;

        void setAsTold(Ground ground) {
            Arrays.fill(wanting, BY_LAW);
            System.arraycopy(ground.passWidth, 0, passWidth, 0, MAX_PASSES);
            System.arraycopy(ground.riverWidth, 0, riverWidth, 0, MAX_RIVERS);
            System.arraycopy(ground.rain, 0, rain, 0, MAX_RAINS);
            pumpCell = NONE;
        }

        /** 0: a village takes nothing, 1: a pass is sealed, 2: a river is dammed. */
        void change(int what, int which) {
            if (what == 0 && which < wanting.length) {
                wanting[which] = NOTHING;
            } else if (what == 1 && which < passWidth.length) {
                passWidth[which] = 0;
            } else if (what == 2 && which < riverWidth.length) {
                riverWidth[which] = 0;
            }
        }

        /** Only the villages of a set take, by their laws. */
        void letTake(int set) {
            for (int v = 0; v < MAX_VILLAGES; v++) {
                wanting[v] = has(set, v) ? BY_LAW : NOTHING;
            }
        }

        void setPump(int cell, int takes, int from, int to) {
            pumpCell = cell;
            pumpTakes = takes;
            pumpFrom = from;
            pumpTo = to;
        }

        boolean pumpsOn(int day) {
            return pumpCell != NONE && day >= pumpFrom && day <= pumpTo;
        }
    }

    /** The rules of a day. */
    private static final class Course {
        private final Ground ground;
        private final Plan plan;
        /** Which villages lacked their need, on the day that was run last. */
        final boolean[] lacked = new boolean[MAX_VILLAGES];
        /** What the pump took on the day that was run last. */
        int pumped = 0;
        private int today = 0;
        private final int[] level = new int[MAX_CELLS];
        private final int[] water = new int[MAX_CELLS];
        private final long[] salt = new long[MAX_CELLS];
        private final int[] stack = new int[STACK];

        Course(Ground ground, Plan plan) {
            this.ground = ground;
            this.plan = plan;
        }

        void oneDay(Days days) {
            morning(days);
            takeTurns(days);
            takeByPump(days);
            lookAtLevels(days);
            for (int p = 0; p < ground.passes; p++) {
                int amount = passFlow(p);
                if (amount > 0) {
                    move(days, ground.passFrom[p], ground.passTo[p], amount);
                } else if (amount < 0) {
                    move(days, ground.passTo[p], ground.passFrom[p], -amount);
                }
            }
            for (int r = 0; r < ground.rivers; r++) {
                flowByRiver(days, r);
            }
            days.day++;
        }

        void morning(Days days) {
            boolean monday = days.day % WEEK == 0;
            today = rainOf(days.day);
            for (int c = 0; c < ground.cells; c++) {
                if (monday) {
                    days.seen[c] = ground.levelOf(c, days.water[c]);
                }
                days.water[c] += today;
            }
        }

        int rainOf(int day) {
            return ground.rains < 1 ? 0 : plan.rain[Math.floorMod(day, ground.rains)];
        }

        void takeTurns(Days days) {
            for (int v = 0; v < ground.villages; v++) {
                int cell = ground.villageCell[v];
                boolean takes = plan.wanting[v] != NOTHING;
                int could = Math.min(takes ? wantOf(days, v) : MAX_WANT, days.water[cell]);
                lacked[v] = could < ground.need[v];
                days.took[v] = takes ? could : 0;
                days.total[v] += days.took[v];
                days.draw(cell, days.took[v]);
                if (takes && lacked[v]) {
                    days.countDry(v);
                }
            }
        }

        private void takeByPump(Days days) {
            pumped = 0;
            if (plan.pumpsOn(days.day)) {
                pumped = Math.min(plan.pumpTakes, days.water[plan.pumpCell]);
                days.draw(plan.pumpCell, pumped);
            }
        }

        /** What a village wants, the morning having been. */
        int wantOf(Days days, int village) {
            if (plan.wanting[village] >= 0) {
                return plan.wanting[village];
            }
            int top = 0;
            int end = Math.min(ground.lawEnd[village], ground.code.length);
            for (int i = ground.lawBegin(village); i < end; i++) {
                int code = ground.code[i];
                if (code > CODE_ADD || code < CODE_DIVIDE) {
                    if (top >= stack.length) {
                        return 0;
                    }
                    stack[top] = code > CODE_ADD ? code : valueOf(code, days, village);
                    top++;
                } else {
                    if (top < 2 || code == CODE_DIVIDE && stack[top - 1] == 0) {
                        return 0;
                    }
                    top--;
                    stack[top - 1] = joined(code, stack[top - 1], stack[top]);
                }
            }
            return top < 1 ? 0 : Math.max(0, Math.min(MAX_WANT, stack[top - 1]));
        }

        private int valueOf(int code, Days days, int village) {
            switch (code) {
                case CODE_DAY: return days.day;
                case CODE_TODAY: return today;
                case CODE_TOOK: return days.took[village];
                case CODE_DRY: return days.dryDays[village];
                default: break;
            }
            int cell = CODE_LEVEL - code;
            return cell < 0 || cell >= days.seen.length ? 0 : days.seen[cell];
        }

        private static int joined(int code, int left, int right) {
            switch (code) {
                case CODE_ADD: return left + right;
                case CODE_SUBTRACT: return left - right;
                case CODE_MULTIPLY: return left * right;
                default: return right == 0 ? 0 : left / right;
            }
        }

        /** Keeps levels, water and salt as they are behind all that is taken: all flows go by them. */
        void lookAtLevels(Days days) {
            for (int c = 0; c < ground.cells; c++) {
                level[c] = ground.levelOf(c, days.water[c]);
                water[c] = days.water[c];
                salt[c] = days.salt[c];
            }
        }

        int passFlow(int pass) {
            int difference = level[ground.passFrom[pass]] - level[ground.passTo[pass]];
            return difference * plan.passWidth[pass] / 100;
        }

        int riverFlow(int river) {
            int difference = ground.riverLevel[river] - level[ground.riverCell[river]];
            return difference * plan.riverWidth[river] / 100;
        }

        private void move(Days days, int from, int to, int amount) {
            long along = saltAlong(from, amount);
            days.water[from] -= amount;
            days.salt[from] -= along;
            days.water[to] += amount;
            days.salt[to] += along;
        }

        private void flowByRiver(Days days, int river) {
            int cell = ground.riverCell[river];
            int amount = riverFlow(river);
            if (amount > 0) {
                days.salt[cell] += (long) amount * ground.riverSalt[river];
            } else if (amount < 0) {
                days.salt[cell] -= saltAlong(cell, -amount);
            }
            days.water[cell] += amount;
        }

        private long saltAlong(int cell, int amount) {
            return salt[cell] == 0 || water[cell] < 1 ? 0 : salt[cell] * amount / water[cell];
        }
    }

    /** The levels that were told, and what fits them: all runs here are from the text's begin on. */
    private static final class Evidence {
        int told = 0;
        private final int[] toldDay = new int[MAX_TOLD];
        private final int[] toldCell = new int[MAX_TOLD];
        private final int[] toldLevel = new int[MAX_TOLD];
        /** How many pairs of widths fit, and the first of them. */
        int fitting = 0;
        int firstPair = NEVER;
        private final Ground ground;
        private final Plan plan = new Plan();
        private final Course course;
        private final Days trial = new Days();
        /** Levels of all cells, row by row for each pair that fits; made when first needed. */
        private int[] pairLevels = null;
        /** The begins of the first days without a pump; made when first needed. */
        private Days[] begins = null;
        /** The pumps by how many are known, row by row; in place of a pump's cell why there is none. */
        private final int[] pumps = new int[PUMP_ANSWERS * (MAX_TOLD + 1)];

        Evidence(Ground ground) {
            this.ground = ground;
            this.course = new Course(ground, plan);
        }

        void clear() {
            told = 0;
            Arrays.fill(pumps, NOT_SOUGHT);
        }

        int add(int day, int cell, int level) {
            if (told >= MAX_TOLD) {
                return NONE;
            }
            toldDay[told] = day;
            toldCell[told] = cell;
            toldLevel[told] = level;
            told++;
            return told - 1;
        }

        private int lastDay(int k) {
            int last = 0;
            for (int i = 0; i < k && i < MAX_TOLD; i++) {
                last = Math.max(last, toldDay[i]);
            }
            return last;
        }

        /** The first of the known levels of the trial's day that is not so. */
        private int offToday(int k) {
            for (int i = 0; i < k && i < MAX_TOLD; i++) {
                int cell = toldCell[i];
                if (toldDay[i] == trial.day && ground.levelOf(cell, trial.water[cell]) != toldLevel[i]) {
                    return i;
                }
            }
            return NEVER;
        }

        int firstOff(int k) {
            int first = NEVER;
            int last = lastDay(k);
            plan.setAsTold(ground);
            trial.begin(ground);
            for (int day = 0; day <= last; day++) {
                int off = offToday(k);
                if (off != NEVER && (first == NEVER || off < first)) {
                    first = off;
                }
                course.oneDay(trial);
            }
            return first;
        }

        /** Whether all that is known is so; the levels of one day are kept on the way (NONE: of none). */
        private boolean fits(int k, int keptDay) {
            int last = Math.max(lastDay(k), keptDay);
            trial.begin(ground);
            for (int day = 0; day <= last; day++) {
                if (offToday(k) != NEVER) {
                    return false;
                }
                if (day == keptDay) {
                    keepLevels();
                }
                if (day < last) {
                    course.oneDay(trial);
                }
            }
            return true;
        }

        private void keepLevels() {
            if (pairLevels == null) {
                pairLevels = new int[PAIRS * MAX_CELLS];
            }
            int row = fitting * MAX_CELLS;
            for (int c = 0; c < ground.cells && row + c < pairLevels.length; c++) {
                pairLevels[row + c] = ground.levelOf(c, trial.water[c]);
            }
        }

        int spanOfPass(int pass, int k) {
            plan.setAsTold(ground);
            return spanAt(pass, plan.passWidth, MAX_WIDTH, k);
        }

        int spanOfRain(int i, int k) {
            plan.setAsTold(ground);
            return spanAt(i, plan.rain, MAX_RAIN, k);
        }

        /** The least and the greatest number (0 .. greatest) at an index of one of the plan's rows that fits. */
        private int spanAt(int index, int[] row, int greatest, int k) {
            if (index < 0 || index >= row.length) {
                return NEVER;
            }
            int low = NEVER;
            int high = NEVER;
            for (int x = 0; x <= greatest; x++) {
                row[index] = x;
                if (fits(k, NONE)) {
                    low = low == NEVER ? x : low;
                    high = x;
                }
            }
            return low == NEVER ? NEVER : 100 * low + high;
        }

        void fitPairs(int pass, int other, int k, int keptDay) {
            fitting = 0;
            firstPair = NEVER;
            plan.setAsTold(ground);
            for (int one = 0; one <= MAX_WIDTH; one++) {
                for (int two = 0; two <= MAX_WIDTH; two++) {
                    plan.passWidth[pass] = one;
                    plan.passWidth[other] = two;
                    if (fits(k, keptDay)) {
                        firstPair = fitting == 0 ? 100 * one + two : firstPair;
                        fitting++;
                    }
                }
            }
        }

        /** The first cell of which the fewest pairs at most share a level. */
        int cellThatParts() {
            int best = NEVER;
            int fewest = PAIRS + 1;
            for (int c = 0; c < ground.cells; c++) {
                int alike = greatestAlike(c);
                if (alike < fewest) {
                    fewest = alike;
                    best = c;
                }
            }
            return best;
        }

        private int greatestAlike(int cell) {
            if (pairLevels == null) {
                return 0;
            }
            int end = Math.min(fitting * MAX_CELLS, pairLevels.length);
            int greatest = 0;
            for (int i = cell; i < end; i += MAX_CELLS) {
                int alike = 0;
                for (int j = cell; j < end; j += MAX_CELLS) {
                    if (pairLevels[i] == pairLevels[j]) {
                        alike++;
                    }
                }
                greatest = Math.max(greatest, alike);
            }
            return greatest;
        }

        int pumpAnswer(int k, int what) {
            int row = PUMP_ANSWERS * k;
            if (row < 0 || row + PUMP_ANSWERS > pumps.length || what < 0 || what >= PUMP_ANSWERS) {
                return NONE;
            }
            return pumps[row] < 0 ? pumps[row] : pumps[row + what];
        }

        /** Seeks by growing cost, then by cell and days: the first that explains is the one. */
        void lookForPump(int k) {
            int row = PUMP_ANSWERS * k;
            if (row < 0 || row + PUMP_ANSWERS > pumps.length || pumps[row] != NOT_SOUGHT) {
                return; // what is told later is not among the first k: what was found stays so
            }
            int last = lastDay(k);
            int firstWrong = keepBegins(k, last);
            pumps[row] = firstWrong == NEVER ? NOT_NEEDED : NEVER;
            int froms = Math.min(firstWrong, PUMP_DAYS); // a pump that begins later comes too late
            int tos = Math.min(last, PUMP_DAYS); // one that ends later does the same, and costs more
            for (int cost = 1; cost <= PUMP_MOST * PUMP_DAYS && pumps[row] == NEVER; cost++) {
                for (int cell = 0; cell < ground.cells; cell++) {
                    for (int from = 0; from < froms; from++) {
                        for (int to = from; to < tos; to++) {
                            int takes = takesFor(cost, to - from + 1);
                            plan.setPump(cell, takes, from, to);
                            if (takes > 0 && explains(k, last)) {
                                keepPump(row);
                                return;
                            }
                        }
                    }
                }
            }
        }

        private void keepPump(int row) {
            if (row < 0 || row + PUMP_ANSWERS > pumps.length) {
                return;
            }
            pumps[row] = plan.pumpCell;
            pumps[row + 1] = plan.pumpTakes;
            pumps[row + 2] = plan.pumpFrom;
            pumps[row + 3] = plan.pumpTo;
        }

        /** What a pump takes a day that costs so much on so many days; 0: none does. */
        private static int takesFor(int cost, int days) {
            if (days < 1 || cost % days != 0 || cost / days > PUMP_MOST) {
                return 0;
            }
            return cost / days;
        }

        /** The first day on which a known level is not so without a pump. */
        private int keepBegins(int k, int last) {
            makeBegins();
            plan.setAsTold(ground);
            trial.begin(ground);
            for (int day = 0; day <= last; day++) {
                if (day < PUMP_DAYS) {
                    begins[day].become(trial);
                }
                if (offToday(k) != NEVER) {
                    return day;
                }
                course.oneDay(trial);
            }
            return NEVER;
        }

        private void makeBegins() {
            if (begins == null) {
                begins = new Days[PUMP_DAYS];
                for (int i = 0; i < PUMP_DAYS; i++) {
                    begins[i] = new Days();
                }
            }
        }

        private boolean explains(int k, int last) {
            if (begins == null || plan.pumpFrom >= begins.length) {
                return false;
            }
            trial.become(begins[plan.pumpFrom]);
            int greatest = 0;
            for (int day = plan.pumpFrom; day < last; day++) {
                course.oneDay(trial);
                if (offToday(k) != NEVER) {
                    return false;
                }
                greatest = Math.max(greatest, course.pumped);
                if (day == plan.pumpTo && greatest < plan.pumpTakes) {
                    return false; // a pump that takes less does the same, and was looked at ahead
                }
            }
            return true;
        }
    }

    /** Reads a tape into a ground of its own, or finds its fault. */
    private static final class Reader {
        private final int[] kind = new int[SCANNED];
        private final int[] start = new int[SCANNED];
        /** The number of an INT; the letters of a NAME, packed. */
        private final long[] value = new long[SCANNED];
        private final long[] cellName = new long[MAX_CELLS];
        private final long[] villageName = new long[MAX_VILLAGES];
        final Ground ground = new Ground();
        private int next = 0;
        private int codeLength = 0;
        /** The cell of the village whose law is read. */
        private int ownCell = NONE;
        /** Whether nothing more is to be read. */
        private boolean stopped = false;
        /** The first SYNTAX or ROOM. */
        private int fault = 0;
        private int faultPlace = NONE;
        /** The first of the others, which counts only if the whole text has none of those. */
        private int laterFault = 0;
        private int laterPlace = NONE;

        /** 0, or the number of the text's fault: then what the ground holds is of no use. */
        int readAll(byte[] tape, int length) {
            begin();
            scan(tape, Math.min(length, tape.length));
            for (int i = 0; i < SCANNED && !stopped && kind[next] != END; i++) {
                switch (kind[next]) {
                    case CELL: readCell(); break;
                    case PASS: readPass(); break;
                    case RIVER: readRiver(); break;
                    case RAIN: readRain(); break;
                    case VILLAGE: readVillage(); break;
                    default: stop(SYNTAX, start[next]); break;
                }
            }
            return fault == 0 ? laterFault : fault;
        }

        int placeOfFault() {
            return fault == 0 ? laterPlace : faultPlace;
        }

        private void begin() {
            ground.clear();
            next = 0;
            codeLength = 0;
            stopped = false;
            fault = 0;
            faultPlace = NONE;
            laterFault = 0;
            laterPlace = NONE;
        }

        // -- tokens

        /** Finds the tokens, as many as can matter, up to the end or to what is none. */
        private void scan(byte[] tape, int length) {
            int at = 0;
            for (int token = 0; token < SCANNED; token++) {
                while (at < length && isBlank(tape[at])) {
                    at++;
                }
                start[token] = at;
                if (at >= length || token == SCANNED - 1) {
                    kind[token] = END;
                    return;
                }
                at = scanToken(token, tape, length);
                if (kind[token] == BAD) {
                    return;
                }
            }
        }

        /** Where the token ends that begins at its start. */
        private int scanToken(int token, byte[] tape, int length) {
            int from = start[token];
            int end = from;
            long packed = 0;
            if (isLetter(tape[from])) {
                for (; end < length && isLetter(tape[end]); end++) {
                    packed = packed * 32 + (tape[end] - 'a' + 1);
                }
                kind[token] = end - from > NAME_LETTERS ? BAD : wordOrName(packed);
            } else if (isDigit(tape[from])) {
                for (; end < length && isDigit(tape[end]); end++) {
                    packed = packed * 10 + (tape[end] - '0');
                }
                kind[token] = end - from > INT_DIGITS ? BAD : INT;
            } else {
                kind[token] = isSign(tape[from]) ? tape[from] : BAD;
                end++;
            }
            value[token] = packed;
            return end;
        }

        private static boolean isBlank(byte sign) {
            return sign == 9 || sign == 10 || sign == 13 || sign == 32;
        }

        private static boolean isLetter(byte sign) {
            return sign >= 'a' && sign <= 'z';
        }

        private static boolean isDigit(byte sign) {
            return sign >= '0' && sign <= '9';
        }

        private static boolean isSign(byte sign) {
            return sign > 0 && SIGNS.indexOf((char) sign) >= 0;
        }

        private static int wordOrName(long packed) {
            if (packed == pack("cell")) return CELL;
            if (packed == pack("pass")) return PASS;
            if (packed == pack("river")) return RIVER;
            if (packed == pack("rain")) return RAIN;
            if (packed == pack("village")) return VILLAGE;
            if (packed == pack("at")) return AT;
            if (packed == pack("seen")) return SEEN;
            if (packed == pack("day")) return DAY;
            if (packed == pack("today")) return TODAY;
            if (packed == pack("took")) return TOOK;
            if (packed == pack("dry")) return DRY;
            return NAME;
        }

        private static long pack(String word) {
            long packed = 0;
            for (int i = 0; i < word.length(); i++) {
                packed = packed * 32 + (word.charAt(i) - 'a' + 1);
            }
            return packed;
        }

        // -- what a text tells

        private void readCell() {
            if (!opens(ground.cells, MAX_CELLS)) {
                return;
            }
            int cell = ground.cells;
            cellName[cell] = newName();
            ground.room[cell] = number(1, 9);
            ground.water[cell] = number(0, MAX_WATER);
            accept(';');
            ground.cells++;
        }

        private void readPass() {
            int word = start[next];
            if (!opens(ground.passes, MAX_PASSES)) {
                return;
            }
            int pass = ground.passes;
            int from = knownCell();
            int to = knownCell();
            if (from != NONE && from == to) {
                later(WRONG);
            } else if (from != NONE && to != NONE) {
                addWay(from, word);
                addWay(to, word);
            }
            ground.passFrom[pass] = from;
            ground.passTo[pass] = to;
            ground.passWidth[pass] = number(1, MAX_WIDTH);
            accept(';');
            ground.passes++;
        }

        private void readRiver() {
            int word = start[next];
            if (!opens(ground.rivers, MAX_RIVERS)) {
                return;
            }
            int river = ground.rivers;
            int cell = knownCell();
            if (cell != NONE) {
                addWay(cell, word);
            }
            ground.riverCell[river] = cell;
            ground.riverLevel[river] = number(0, 999);
            ground.riverWidth[river] = number(1, MAX_WIDTH);
            ground.riverSalt[river] = number(0, 99);
            accept(';');
            ground.rivers++;
        }

        private void readRain() {
            accept(RAIN);
            ground.rains = 0;
            for (int i = 0; i <= MAX_RAINS && !stopped && kind[next] == INT; i++) {
                if (ground.rains >= MAX_RAINS) {
                    stop(ROOM, start[next]);
                } else {
                    ground.rain[ground.rains] = number(0, MAX_RAIN);
                    ground.rains++;
                }
            }
            accept(';');
        }

        private void readVillage() {
            if (!opens(ground.villages, MAX_VILLAGES)) {
                return;
            }
            int village = ground.villages;
            villageName[village] = newName();
            ownCell = knownCell();
            ground.villageCell[village] = ownCell;
            ground.need[village] = number(0, 99);
            accept('=');
            readSum(0);
            accept(';');
            ground.lawEnd[village] = codeLength;
            ground.villages++;
        }

        // -- laws

        private void readSum(int depth) {
            readProduct(depth);
            for (int i = 0; i < SCANNED && !stopped && (kind[next] == '+' || kind[next] == '-'); i++) {
                int code = kind[next] == '+' ? CODE_ADD : CODE_SUBTRACT;
                accept(kind[next]);
                readProduct(depth);
                emit(code);
            }
        }

        private void readProduct(int depth) {
            readUnit(depth);
            for (int i = 0; i < SCANNED && !stopped && (kind[next] == '*' || kind[next] == '/'); i++) {
                int code = kind[next] == '*' ? CODE_MULTIPLY : CODE_DIVIDE;
                accept(kind[next]);
                readUnit(depth);
                emit(code);
            }
        }

        private void readUnit(int depth) {
            if (stopped) {
                return;
            }
            int first = kind[next];
            switch (first) {
                case INT: emit(number(0, MAX_INT)); break;
                case SEEN: accept(first); emit(CODE_LEVEL - ownCell); break;
                case DAY: accept(first); emit(CODE_DAY); break;
                case TODAY: accept(first); emit(CODE_TODAY); break;
                case TOOK: accept(first); emit(CODE_TOOK); break;
                case DRY: accept(first); emit(CODE_DRY); break;
                case AT: accept(first); emit(CODE_LEVEL - knownCell()); break;
                case '(': readNested(depth); break;
                default: stop(SYNTAX, start[next]); break;
            }
        }

        private void readNested(int depth) {
            if (depth >= MAX_NESTING) {
                stop(ROOM, start[next]);
                return;
            }
            accept('(');
            readSum(depth + 1);
            accept(')');
        }

        private void emit(int code) {
            if (codeLength < ground.code.length) {
                ground.code[codeLength] = code;
                codeLength++;
            }
        }

        // -- steps of reading, each of which does nothing when the reading has stopped

        private boolean accept(int wanted) {
            if (stopped) {
                return false;
            }
            if (kind[next] != wanted) {
                stop(SYNTAX, start[next]);
                return false;
            }
            if (next >= MAX_TOKENS) {
                note(ROOM, start[next]);
            }
            next++;
            return true;
        }

        /** Goes over a telling's first word, if there is room for one more. */
        private boolean opens(int count, int most) {
            if (count >= most) {
                stop(ROOM, start[next]);
                return false;
            }
            return accept(kind[next]);
        }

        private int number(int least, int greatest) {
            if (!accept(INT)) {
                return least;
            }
            int number = (int) value[next - 1];
            if (number < least || number > greatest) {
                later(WRONG);
            }
            return number;
        }

        private long newName() {
            if (!accept(NAME)) {
                return 0;
            }
            long name = value[next - 1];
            boolean twice = findCell(name) != NONE;
            for (int v = 0; v < ground.villages; v++) {
                twice = twice || villageName[v] == name;
            }
            if (twice) {
                later(TWICE);
            }
            return name;
        }

        private int knownCell() {
            if (!accept(NAME)) {
                return NONE;
            }
            int cell = findCell(value[next - 1]);
            if (cell == NONE) {
                later(NO_CELL);
            }
            return cell;
        }

        private int findCell(long name) {
            for (int c = 0; c < ground.cells; c++) {
                if (cellName[c] == name) {
                    return c;
                }
            }
            return NONE;
        }

        private void addWay(int cell, int word) {
            if (ground.ways[cell] >= MAX_WAYS) {
                stop(ROOM, word);
            } else {
                ground.ways[cell]++;
            }
        }

        private void stop(int code, int at) {
            note(code, at);
            stopped = true;
        }

        /** Reading goes on: a way that was made at a place ahead may still turn out to be one too many. */
        private void note(int code, int at) {
            if (fault == 0 || at < faultPlace) {
                fault = code;
                faultPlace = at;
            }
        }

        /** A fault of the token that was accepted last. */
        private void later(int code) {
            if (laterFault == 0 && next > 0) {
                laterFault = code;
                laterPlace = start[next - 1];
            }
        }
    }
}
