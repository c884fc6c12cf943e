public final class TongueGlass {
    public static final int NONE = -1;

    private static final int NO_SUCH = NONE - 1;
    private static final int GLASSES = 6;
    private static final int WITNESSES = 12;
    private static final int TOPICS = 16;
    private static final int MOST_LINES = 16;
    private static final int BOOK_LINES = 150;
    private static final int TAPE_BYTES = 400;
    private static final int LAST_TIME = 9999;
    private static final int MOST_MINUTES = 60;
    private static final int KEPT_PASTS = 6;
    private static final int LEAST_READS = 300;
    private static final int MOST_READS = 420;
    private static final int MOST_LEARNT = 99;
    private static final int KEPT_BACK = 10;

    private static final int LAW = 0;
    private static final int WALK = 1;
    private static final int NEAR = 2;
    private static final int KEEPS = 3;

    private static final int WARMS = 0;
    private static final int SLIPS = 1;
    private static final int COOLS = 2;

    private static final int BOOK_UNDER = 0;
    private static final int BOOK_OUT = 1;
    private static final int BOOK_WARMED = 2;
    private static final int BOOK_SLIPPED = 3;
    private static final int BOOK_TOP = 4;

    private final World now = new World();
    private final World image = new World();
    private boolean imageTaken;
    private final Court[] pasts = new Court[KEPT_PASTS];
    private int pastCount;
    private final Court thought = new Court();
    private final Bench bench = new Bench(now);
    private final Tape tape = new Tape();
    private final Scribe scribe = new Scribe(tape);
    private final Mind mind = new Mind();

    public TongueGlass() {
        for (int i = 0; i < KEPT_PASTS; i++) {
            pasts[i] = new Court();
        }
    }

    public int state(int v) {
        int was = now.court.draws;
        now.court.draws = v;
        forgetPasts();
        return was;
    }

    public int glass(int learnt) {
        Court c = now.court;
        if (!within(learnt, 0, MOST_LEARNT) || c.glasses >= GLASSES) {
            return NONE;
        }
        forgetPasts();
        return c.addGlass(learnt);
    }

    public int witness(int cold) {
        Court c = now.court;
        if (!within(cold, 0, 9) || c.witnesses >= WITNESSES) {
            return NONE;
        }
        forgetPasts();
        return c.addWitness(cold);
    }

    public boolean set(int what, int who, int v) {
        Court c = now.court;
        if (what == 0 && c.hasGlass(who) && within(v, 0, MOST_LEARNT)) {
            c.learnt[who] = v;
        } else if (what == 1 && c.hasGlass(who) && within(v, LEAST_READS, MOST_READS)) {
            c.reads[who] = v;
        } else if (what == 2 && c.hasWitness(who) && within(v, 0, 9)) {
            c.cold[who] = v;
        } else {
            return false;
        }
        forgetPasts();
        return true;
    }

    public boolean act(int what, int who, int v) {
        Court c = now.court;
        if (!c.hasGlass(who) || !canAct(what, who, v)) {
            return false;
        }
        keepPast();
        switch (what) {
            case 0:
                bench.putUnder(c, who, v, true);
                break;
            case 1:
                bench.takeOut(c, who, true);
                break;
            case 2:
                c.said[who] = v;
                break;
            case 3:
                c.reads[who] = LEAST_READS;
                break;
            default:
                c.learnt[who] = 0;
                break;
        }
        return true;
    }

    public int minutes(int n) {
        Court c = now.court;
        if (!within(n, 1, MOST_MINUTES) || c.time + n > LAST_TIME) {
            return NONE;
        }
        int tops = 0;
        for (int i = 0; i < n; i++) {
            keepPast();
            tops += bench.passMinute(c, true);
        }
        return tops;
    }

    public int feed(int a, int b, int c, int d, int e) {
        if (tape.length + 20 > TAPE_BYTES) {
            return NONE;
        }
        tape.put(a);
        tape.put(b);
        tape.put(c);
        tape.put(d);
        tape.put(e);
        return tape.length;
    }

    public boolean end(int n) {
        if (!within(n, 0, tape.length)) {
            return false;
        }
        tape.length = n;
        return true;
    }

    public int text(int k) {
        int lines = scribe.readText(k, now.court);
        tape.length = 0;
        if (lines == NONE) {
            return NONE;
        }
        switch (k) {
            case LAW:
                now.law.takeFrom(scribe.law);
                break;
            case WALK:
                now.walk.takeFrom(scribe.walk);
                forgetPasts();
                break;
            case NEAR:
                now.nearTopics.takeFrom(scribe.nearTopics);
                break;
            default:
                System.arraycopy(scribe.keeps, 0, now.court.keeps, 0, WITNESSES);
                now.court.keepsLines = lines;
                forgetPasts();
                break;
        }
        return lines;
    }

    public int fault(int what) {
        if (what == 0) {
            return scribe.faultKind;
        }
        return what == 1 ? scribe.faultPlace : NONE;
    }

    public int of(int glass, int what) {
        Court c = now.court;
        if (!c.hasGlass(glass)) {
            return NO_SUCH;
        }
        switch (what) {
            case 0:
                return c.learnt[glass];
            case 1:
                return c.reads[glass];
            case 2:
                return c.under[glass];
            case 3:
                return c.said[glass];
            case 4:
                return c.off[glass];
            case 5:
                return bench.lawTells(c, glass, WARMS);
            case 6:
                return bench.lawTells(c, glass, SLIPS);
            case 7:
                return bench.lawTells(c, glass, COOLS);
            case 8:
                return bench.glassNearness(c, glass);
            default:
                return NO_SUCH;
        }
    }

    public int who(int witness, int what) {
        Court c = now.court;
        if (!c.hasWitness(witness)) {
            return NO_SUCH;
        }
        switch (what) {
            case 0:
                return c.cold[witness];
            case 1:
                return c.keeps[witness];
            case 2:
                return c.called[witness];
            case 3:
                return c.given[witness];
            case 4:
                return c.glassOf(witness);
            default:
                break;
        }
        if (!within(what, 10, 10 + TOPICS - 1)) {
            return NO_SUCH;
        }
        return now.nearTopics.nearness(c.keeps[witness], what - 10);
    }

    public int near(int a, int b) {
        if (!isTopic(a) || !isTopic(b)) {
            return NONE;
        }
        return now.nearTopics.between(a, b);
    }

    public int book(int i, int what) {
        if (!within(i, 0, now.court.bookLines - 1) || !within(what, 0, 3)) {
            return NONE;
        }
        return now.book.cell(i, what);
    }

    public int goes(int n, int what) {
        if (!within(n, 1, MOST_MINUTES) || !within(what, 0, 3)) {
            return NONE;
        }
        thought.takeFrom(now.court);
        for (int i = 0; i < n; i++) {
            bench.passMinute(thought, false);
        }
        return thought.sumOf(what);
    }

    public int top(int glass) {
        if (!now.court.hasGlass(glass)) {
            return NONE;
        }
        thought.takeFrom(now.court);
        for (int i = 1; i <= MOST_MINUTES; i++) {
            bench.passMinute(thought, false);
            if (thought.off[glass] != now.court.off[glass]) {
                return i;
            }
        }
        return NONE;
    }

    public int hottest(int glass, int what) {
        if (!now.court.hasGlass(glass) || now.court.under[glass] == NONE || !within(what, 0, 1)) {
            return NONE;
        }
        thought.takeFrom(now.court);
        int best = NONE;
        int topic = NONE;
        for (int t = 0; t < TOPICS; t++) {
            thought.said[glass] = t;
            int warms = bench.lawTells(thought, glass, WARMS);
            if (warms > best) {
                best = warms;
                topic = t;
            }
        }
        return what == 0 ? topic : best;
    }

    public int warmth(int topic, int nearness) {
        if (topic == NONE) {
            return now.warmths.clearAll();
        }
        if (!isTopic(topic) || !within(nearness, 0, KEPT_BACK)) {
            return NONE;
        }
        return now.warmths.append(topic, nearness);
    }

    public int fits(int k, int what) {
        if (!within(k, 1, 3) || !within(what, 0, 1)) {
            return NONE;
        }
        return mind.fitting(now.warmths, now.nearTopics, k, what);
    }

    public int words(int topics, int what) {
        if (!within(topics, 1, 65535) || Integer.bitCount(topics) > 8 || !within(what, 0, 1)) {
            return NONE;
        }
        return mind.fewestWords(now.nearTopics, topics, what);
    }

    public int world(int weight, int bits) {
        if (weight == NONE) {
            return now.worlds.clearAll();
        }
        if (!within(weight, 1, 9) || !within(bits, 0, 255)) {
            return NONE;
        }
        return now.worlds.append(weight, bits);
    }

    public int sure(int i, int is, int what) {
        if (!now.worlds.has(i) || !within(is, 2 * 256, 8 * 256 + 255) || !within(what, 0, 1)) {
            return NONE;
        }
        return mind.chance(now.worlds, i, is, what);
    }

    public int point(int x, int y) {
        if (x == NONE) {
            return now.points.clearAll();
        }
        if (!within(x, 0, 9) || !within(y, -99, 99)) {
            return NONE;
        }
        return now.points.append(x, y);
    }

    public int term() {
        return mind.leastTerm(now.points);
    }

    public int saying(int how, int v) {
        if (how == NONE) {
            return now.sayings.clearAll();
        }
        if (!within(how, 0, 3) || (how < 2 && !within(v, 1, 50))) {
            return NONE;
        }
        return now.sayings.append(how, v);
    }

    public int cool(int h, int g) {
        if (!within(h, 0, 99) || !within(g, 0, 99)) {
            return NONE;
        }
        return mind.fewestSayings(now.sayings, h, g);
    }

    public int coal(int v) {
        if (v == NONE) {
            return now.heaps.clearAll();
        }
        return within(v, 1, 40) ? now.heaps.append(v, 0) : NONE;
    }

    public int coals(int what) {
        return within(what, 0, 1) ? mind.winningPart(now.heaps, what) : NONE;
    }

    public int shown(int set) {
        if (set == NONE) {
            return now.sets.clearAll();
        }
        return within(set, 0, 65535) ? now.sets.append(set, 0) : NONE;
    }

    public int show(int set, int what) {
        if (what == 0) {
            return mind.rank(now.sets);
        }
        if (!within(set, 0, 65535) || !within(what, 1, 2)) {
            return NONE;
        }
        int few = mind.fewestLaid(now.sets, set);
        if (what == 2) {
            return few;
        }
        return few == NONE ? 0 : 1;
    }

    public boolean cost(int d, int v) {
        if (!within(d, 0, 7) || !within(v, 0, 99)) {
            return false;
        }
        now.costs[d] = v;
        return true;
    }

    public int change(int n, int p, int what) {
        if (!within(n, 1, 40) || !within(p, 0, 99) || !within(what, 0, 1)) {
            return NONE;
        }
        return mind.leastChange(now.costs, n, p, what);
    }

    public int dear(int n, int what) {
        if (!within(n, 1, 40) || !within(what, 0, 1)) {
            return NONE;
        }
        return mind.dearest(n, what);
    }

    public int reading(int v) {
        if (v == NONE) {
            return now.readings.clearAll();
        }
        return within(v, 0, 99) ? now.readings.append(v, 0) : NONE;
    }

    public int steady(int d, int what) {
        if (!within(d, 0, 99) || !within(what, 0, 1)) {
            return NONE;
        }
        return mind.steadiest(now.readings, d, what);
    }

    public int quiet(int n, int k) {
        if (!within(n, 0, 60) || !within(k, 1, 5)) {
            return NONE;
        }
        return mind.quietWays(n, k);
    }

    public int dog(int name) {
        if (name == NONE) {
            return now.names.clearAll();
        }
        return within(name, 1, 9999) ? now.names.append(name, 0) : NONE;
    }

    public int dogs(int what) {
        if (what == 0) {
            return mind.lettersNeeded(now.names);
        }
        return what == 1 ? mind.beginnings(now.names) : NONE;
    }

    public int juror(int weight) {
        if (weight == NONE) {
            return now.jurors.clearAll();
        }
        return within(weight, 1, 20) ? now.jurors.append(weight, 0) : NONE;
    }

    public int jury(int q, int i) {
        if (!within(q, 1, 160)) {
            return NONE;
        }
        if (i == NONE) {
            return mind.fewestEnough(now.jurors, q);
        }
        return now.jurors.has(i) ? mind.turns(now.jurors, q, i) : NONE;
    }

    public boolean undo() {
        if (pastCount == 0) {
            return false;
        }
        pastCount--;
        now.court.takeFrom(pasts[pastCount]);
        return true;
    }

    public boolean image(boolean taken) {
        if (taken) {
            image.takeFrom(now);
            imageTaken = true;
            return true;
        }
        if (!imageTaken) {
            return false;
        }
        now.takeFrom(image);
        forgetPasts();
        return true;
    }

    public int look(int what) {
        Court c = now.court;
        switch (what) {
            case 0:
                return c.glasses;
            case 1:
                return c.witnesses;
            case 2:
                return c.time;
            case 3:
                return c.whoHaveGlasses();
            case 4:
                return c.bookLines;
            case 5:
                return c.draws;
            case 6:
                return now.law.lines;
            case 7:
                return now.walk.lines;
            case 8:
                return now.nearTopics.lines;
            case 9:
                return c.keepsLines;
            case 10:
                return pastCount;
            default:
                return NONE;
        }
    }

    private static boolean within(int v, int low, int high) {
        return v >= low && v <= high;
    }

    private static boolean isTopic(int t) {
        return within(t, 0, TOPICS - 1);
    }

    private boolean canAct(int what, int glass, int v) {
        Court c = now.court;
        switch (what) {
            case 0:
                return c.canGoUnder(glass, v);
            case 1:
                return c.under[glass] != NONE;
            case 2:
                return isTopic(v) && c.said[glass] != v;
            case 3:
                return c.reads[glass] > LEAST_READS;
            case 4:
                return c.learnt[glass] > 0;
            default:
                return false;
        }
    }

    private void forgetPasts() {
        pastCount = 0;
    }

    private void keepPast() {
        if (pastCount >= KEPT_PASTS) {
            Court oldest = pasts[0];
            for (int i = 1; i < KEPT_PASTS; i++) {
                pasts[i - 1] = pasts[i];
            }
            pasts[KEPT_PASTS - 1] = oldest;
            pastCount = KEPT_PASTS - 1;
        }
        pasts[pastCount].takeFrom(now.court);
        pastCount++;
    }

    /** Told pairs of numbers, up to a limit. */
    private static final class Row {
        int size;
        final int[] first;
        final int[] second;

        Row(int most) {
            first = new int[most];
            second = new int[most];
        }

        int append(int a, int b) {
            if (size >= first.length) {
                return NONE;
            }
            first[size] = a;
            second[size] = b;
            size++;
            return size;
        }

        int clearAll() {
            size = 0;
            return size;
        }

        boolean has(int i) {
            return i >= 0 && i < size;
        }

        void takeFrom(Row other) {
            size = other.size;
            System.arraycopy(other.first, 0, first, 0, first.length);
            System.arraycopy(other.second, 0, second, 0, second.length);
        }
    }

    /** What a minute or a hand can change, and who is there; all of it small, since each past is a copy. */
    private static final class Court {
        int glasses;
        int witnesses;
        int time;
        int draws;
        int bookLines;
        int keepsLines;
        final int[] learnt = new int[GLASSES];
        final int[] reads = new int[GLASSES];
        final int[] under = new int[GLASSES];
        final int[] said = new int[GLASSES];
        final int[] off = new int[GLASSES];
        final int[] cold = new int[WITNESSES];
        final int[] keeps = new int[WITNESSES];
        final int[] called = new int[WITNESSES];
        final int[] given = new int[WITNESSES];

        boolean hasGlass(int g) {
            return g >= 0 && g < glasses;
        }

        boolean hasWitness(int w) {
            return w >= 0 && w < witnesses;
        }

        int addGlass(int hasLearnt) {
            int g = glasses;
            learnt[g] = hasLearnt;
            reads[g] = LEAST_READS;
            under[g] = NONE;
            said[g] = NONE;
            off[g] = 0;
            glasses++;
            return g;
        }

        int addWitness(int isCold) {
            int w = witnesses;
            cold[w] = isCold;
            keeps[w] = 0;
            called[w] = 0;
            given[w] = 0;
            witnesses++;
            return w;
        }

        int glassOf(int witness) {
            for (int g = 0; g < glasses; g++) {
                if (under[g] == witness) {
                    return g;
                }
            }
            return NONE;
        }

        boolean canGoUnder(int glass, int witness) {
            return hasWitness(witness) && under[glass] == NONE && glassOf(witness) == NONE;
        }

        int whoHaveGlasses() {
            int have = 0;
            for (int g = 0; g < glasses; g++) {
                if (under[g] != NONE) {
                    have |= 1 << under[g];
                }
            }
            return have;
        }

        int sumOf(int what) {
            int sum = 0;
            if (what == 3) {
                for (int w = 0; w < witnesses; w++) {
                    sum += given[w];
                }
                return sum;
            }
            for (int g = 0; g < glasses; g++) {
                if (what == 0) {
                    sum += reads[g];
                } else if (what == 1) {
                    sum += off[g];
                } else {
                    sum += learnt[g];
                }
            }
            return sum;
        }

        void takeFrom(Court other) {
            glasses = other.glasses;
            witnesses = other.witnesses;
            time = other.time;
            draws = other.draws;
            bookLines = other.bookLines;
            keepsLines = other.keepsLines;
            System.arraycopy(other.learnt, 0, learnt, 0, GLASSES);
            System.arraycopy(other.reads, 0, reads, 0, GLASSES);
            System.arraycopy(other.under, 0, under, 0, GLASSES);
            System.arraycopy(other.said, 0, said, 0, GLASSES);
            System.arraycopy(other.off, 0, off, 0, GLASSES);
            System.arraycopy(other.cold, 0, cold, 0, WITNESSES);
            System.arraycopy(other.keeps, 0, keeps, 0, WITNESSES);
            System.arraycopy(other.called, 0, called, 0, WITNESSES);
            System.arraycopy(other.given, 0, given, 0, WITNESSES);
        }
    }

    /** The cells of THE BOOK; how many lines count is the court's, so that a past need not copy them. */
    private static final class Book {
        final int[] cells = new int[BOOK_LINES * 4];

        int cell(int line, int what) {
            return cells[4 * line + what];
        }

        void write(Court c, int what, int glass, int much) {
            if (c.bookLines >= BOOK_LINES) {
                return;
            }
            int at = 4 * c.bookLines;
            cells[at] = c.time;
            cells[at + 1] = what;
            cells[at + 2] = glass;
            cells[at + 3] = much;
            c.bookLines++;
        }

        void takeFrom(Book other) {
            System.arraycopy(other.cells, 0, cells, 0, cells.length);
        }
    }

    /**
     * THE LAW as postfix code. A NUMBER stands for itself, a name is NAME and its keyword,
     * a sign is SIGN and its letter. A line's E is from .. mid, its B mid .. to (empty: none).
     */
    private static final class Law {
        static final int NAME = 10000;
        static final int SIGN = 20000;
        int lines;
        int used;
        final int[] code = new int[TAPE_BYTES];
        final int[] word = new int[MOST_LINES];
        final int[] from = new int[MOST_LINES];
        final int[] mid = new int[MOST_LINES];
        final int[] to = new int[MOST_LINES];

        void emit(int op) {
            if (used < code.length) {
                code[used] = op;
                used++;
            }
        }

        void takeFrom(Law other) {
            lines = other.lines;
            used = other.used;
            System.arraycopy(other.code, 0, code, 0, code.length);
            System.arraycopy(other.word, 0, word, 0, MOST_LINES);
            System.arraycopy(other.from, 0, from, 0, MOST_LINES);
            System.arraycopy(other.mid, 0, mid, 0, MOST_LINES);
            System.arraycopy(other.to, 0, to, 0, MOST_LINES);
        }
    }

    /** WALK, line by line; a deed is the keyword that told it. */
    private static final class Walk {
        int lines;
        final int[] minute = new int[MOST_LINES];
        final int[] glass = new int[MOST_LINES];
        final int[] deed = new int[MOST_LINES];
        final int[] value = new int[MOST_LINES];

        void takeFrom(Walk other) {
            lines = other.lines;
            System.arraycopy(other.minute, 0, minute, 0, MOST_LINES);
            System.arraycopy(other.glass, 0, glass, 0, MOST_LINES);
            System.arraycopy(other.deed, 0, deed, 0, MOST_LINES);
            System.arraycopy(other.value, 0, value, 0, MOST_LINES);
        }
    }

    /** NEAR as a table of all pairs of TOPICS. */
    private static final class NearTopics {
        int lines;
        final int[] table = new int[TOPICS * TOPICS];

        int between(int a, int b) {
            return table[TOPICS * a + b];
        }

        void tell(int a, int b, int n) {
            if (n > between(a, b)) {
                table[TOPICS * a + b] = n;
                table[TOPICS * b + a] = n;
            }
        }

        int nearness(int kept, int topic) {
            if (topic < 0 || topic >= TOPICS) {
                return 0;
            }
            if ((kept >> topic & 1) == 1) {
                return KEPT_BACK;
            }
            int best = 0;
            for (int t = 0; t < TOPICS; t++) {
                if ((kept >> t & 1) == 1 && between(topic, t) > best) {
                    best = between(topic, t);
                }
            }
            return best;
        }

        void clearAll() {
            lines = 0;
            for (int i = 0; i < table.length; i++) {
                table[i] = 0;
            }
        }

        void takeFrom(NearTopics other) {
            lines = other.lines;
            System.arraycopy(other.table, 0, table, 0, table.length);
        }
    }

    /** All that THE IMAGE holds. */
    private static final class World {
        final Court court = new Court();
        final Book book = new Book();
        final Law law = new Law();
        final Walk walk = new Walk();
        final NearTopics nearTopics = new NearTopics();
        final Row warmths = new Row(8);
        final Row worlds = new Row(6);
        final Row points = new Row(4);
        final Row sayings = new Row(6);
        final Row heaps = new Row(4);
        final Row sets = new Row(8);
        final Row readings = new Row(24);
        final Row names = new Row(8);
        final Row jurors = new Row(8);
        final int[] costs = new int[8];

        void takeFrom(World other) {
            court.takeFrom(other.court);
            book.takeFrom(other.book);
            law.takeFrom(other.law);
            walk.takeFrom(other.walk);
            nearTopics.takeFrom(other.nearTopics);
            warmths.takeFrom(other.warmths);
            worlds.takeFrom(other.worlds);
            points.takeFrom(other.points);
            sayings.takeFrom(other.sayings);
            heaps.takeFrom(other.heaps);
            sets.takeFrom(other.sets);
            readings.takeFrom(other.readings);
            names.takeFrom(other.names);
            jurors.takeFrom(other.jurors);
            System.arraycopy(other.costs, 0, costs, 0, costs.length);
        }
    }

    /** Asks THE LAW and lets minutes pass, for the court that is and for one in thought alike. */
    private static final class Bench {
        /** Nine levels of B hold two values each and a comparison four more: 22 at most. */
        private static final int MOST_HELD = 64;
        private final World world;
        private final int[] names = new int[Scribe.NAMES];
        private final int[] stack = new int[MOST_HELD];

        Bench(World world) {
            this.world = world;
        }

        /** How many went off the top. */
        int passMinute(Court c, boolean real) {
            Walk walk = world.walk;
            for (int i = 0; i < walk.lines; i++) {
                if (walk.minute[i] == c.time && c.hasGlass(walk.glass[i])) {
                    walkLine(c, i, real);
                }
            }
            int tops = 0;
            for (int g = 0; g < c.glasses; g++) {
                if (c.under[g] != NONE && passGlass(c, g, real)) {
                    tops++;
                }
            }
            for (int g = 0; g < c.glasses; g++) {
                c.said[g] = NONE;
            }
            c.time++;
            return tops;
        }

        private void walkLine(Court c, int line, boolean real) {
            int glass = world.walk.glass[line];
            int value = world.walk.value[line];
            switch (world.walk.deed[line]) {
                case Scribe.SAY:
                    c.said[glass] = value;
                    break;
                case Scribe.QUIET:
                    c.said[glass] = NONE;
                    break;
                case Scribe.SHAKE:
                    c.reads[glass] = LEAST_READS;
                    break;
                case Scribe.WIPE:
                    c.learnt[glass] = 0;
                    break;
                case Scribe.UNDER:
                    putUnder(c, glass, value, real);
                    break;
                default:
                    takeOut(c, glass, real);
                    break;
            }
        }

        void putUnder(Court c, int glass, int witness, boolean real) {
            if (!c.canGoUnder(glass, witness)) {
                return;
            }
            c.under[glass] = witness;
            c.called[witness]++;
            note(c, BOOK_UNDER, glass, witness, real);
        }

        void takeOut(Court c, int glass, boolean real) {
            int witness = c.under[glass];
            if (witness == NONE) {
                return;
            }
            c.under[glass] = NONE;
            note(c, BOOK_OUT, glass, witness, real);
        }

        private void note(Court c, int what, int glass, int much, boolean real) {
            if (real) {
                world.book.write(c, what, glass, much);
            }
        }

        /** A glass's part of a minute; whether it went off the top. */
        private boolean passGlass(Court c, int g, boolean real) {
            behold(c, g);
            if (slipsNow(c, real)) {
                note(c, BOOK_SLIPPED, g, c.reads[g], real);
                c.reads[g] = LEAST_READS;
            } else if (c.said[g] != NONE) {
                warm(c, g, real);
            } else {
                c.reads[g] = Math.max(LEAST_READS, c.reads[g] - told(COOLS));
            }
            if (c.reads[g] <= MOST_READS) {
                return false;
            }
            goOffTop(c, g, real);
            return true;
        }

        private boolean slipsNow(Court c, boolean real) {
            int slips = told(SLIPS);
            if (!real) {
                return slips >= 500;
            }
            return slips > 0 && drawThousand(c) < slips;
        }

        private static int drawThousand(Court c) {
            c.draws = 1664525 * c.draws + 1013904223;
            return (c.draws >>> 8) % 1000;
        }

        private void warm(Court c, int g, boolean real) {
            int warms = told(WARMS);
            c.reads[g] += warms;
            if (names[Scribe.NEARNESS] > 0 && c.learnt[g] < MOST_LEARNT) {
                c.learnt[g]++;
            }
            if (warms > 0) {
                note(c, BOOK_WARMED, g, warms, real);
            }
        }

        private void goOffTop(Court c, int g, boolean real) {
            int witness = c.under[g];
            c.reads[g] = MOST_READS;
            c.off[g]++;
            if (c.hasWitness(witness)) {
                c.given[witness]++;
            }
            c.under[g] = NONE;
            note(c, BOOK_TOP, g, witness, real);
        }

        int lawTells(Court c, int g, int word) {
            behold(c, g);
            return told(word);
        }

        int glassNearness(Court c, int g) {
            behold(c, g);
            return names[Scribe.NEARNESS];
        }

        /** Writes down what each name of THE LAW means for a glass, so that its lines only look it up. */
        private void behold(Court c, int g) {
            int witness = c.under[g];
            boolean has = c.hasWitness(witness);
            names[Scribe.NEARNESS] = has ? world.nearTopics.nearness(c.keeps[witness], c.said[g]) : 0;
            names[Scribe.COLD] = has ? c.cold[witness] : 0;
            names[Scribe.READS] = c.reads[g];
            names[Scribe.LEARNT] = c.learnt[g];
            names[Scribe.SAID] = c.said[g] == NONE ? 0 : 1;
            names[Scribe.KEEPING] = has ? Integer.bitCount(c.keeps[witness]) : 0;
            names[Scribe.CALLED] = has ? c.called[witness] : 0;
            names[Scribe.OFF] = c.off[g];
            names[Scribe.GLASS] = g;
            names[Scribe.TIME] = c.time;
        }

        /** What THE LAW tells for a word of the glass beheld last. */
        private int told(int word) {
            int most = word == SLIPS ? 1000 : 99;
            Law law = world.law;
            for (int i = 0; i < law.lines; i++) {
                boolean asked = law.word[i] == word;
                if (asked && (law.mid[i] == law.to[i] || valueOf(law.mid[i], law.to[i]) != 0)) {
                    return Math.max(0, Math.min(most, valueOf(law.from[i], law.mid[i])));
                }
            }
            if (word == WARMS) {
                return Math.max(0, 3 * names[Scribe.NEARNESS] - 2 * names[Scribe.COLD]);
            }
            return word == SLIPS ? 0 : 5;
        }

        private int valueOf(int from, int to) {
            Law law = world.law;
            int top = 0;
            for (int i = from; i < to && i < law.used && top < stack.length; i++) {
                int op = law.code[i];
                if (op < Law.NAME) {
                    stack[top] = op;
                    top++;
                } else if (op < Law.SIGN) {
                    stack[top] = names[op - Law.NAME];
                    top++;
                } else if (op == Law.SIGN + '!' && top > 0) {
                    stack[top - 1] = 1 - stack[top - 1];
                } else if (top > 1) {
                    top--;
                    stack[top - 1] = joined(op - Law.SIGN, stack[top - 1], stack[top]);
                }
            }
            return top > 0 ? stack[0] : 0;
        }

        private static int joined(int sign, int a, int b) {
            switch (sign) {
                case '+':
                    return a + b;
                case '-':
                    return a - b;
                case '*':
                    return a * b;
                case '/':
                    return b == 0 ? 0 : a / b;
                case '<':
                    return a < b ? 1 : 0;
                case '=':
                    return a == b ? 1 : 0;
                case '>':
                    return a > b ? 1 : 0;
                case '&':
                    return a & b;
                default:
                    return a | b;
            }
        }
    }

    /** The TAPE, and its tokens once it is split; behind the last one stands END. */
    private static final class Tape {
        static final int END = 0;
        static final int WORD = 1;
        static final int NUMBER = 2;
        static final int SIGN = 3;
        static final int BAD = 4;
        int length;
        int kind;
        int value;
        int place;
        private final int[] bytes = new int[TAPE_BYTES];
        private final int[] kinds = new int[TAPE_BYTES + 1];
        private final int[] values = new int[TAPE_BYTES + 1];
        private final int[] places = new int[TAPE_BYTES + 1];
        private int tokens;
        private int at;

        void put(int four) {
            for (int shift = 24; shift >= 0 && length < TAPE_BYTES; shift -= 8) {
                bytes[length] = four >>> shift & 255;
                length++;
            }
        }

        void split(String words) {
            tokens = 0;
            int next = 0;
            for (int i = 0; i < length && next < length; i++) {
                int b = bytes[next];
                if (b == 32 || b == 10) {
                    next++;
                } else {
                    next = addToken(next, b, words);
                }
            }
            kinds[tokens] = END;
            values[tokens] = NONE;
            places[tokens] = length;
            at = NONE;
            advance();
        }

        void advance() {
            if (at < tokens) {
                at++;
            }
            kind = kinds[at];
            value = values[at];
            place = places[at];
        }

        boolean isWord(int keyword) {
            return kind == WORD && value == keyword;
        }

        boolean isSign(int sign) {
            return kind == SIGN && value == sign;
        }

        /** The place behind the token that begins at start. */
        private int addToken(int start, int b, String words) {
            int behind = start + 1;
            int itsKind = isMark(b) ? SIGN : BAD;
            int itsValue = b;
            if (isLetter(b)) {
                behind = endOfLetters(start);
                itsValue = keyword(words, start, behind);
                itsKind = itsValue == NONE ? BAD : WORD;
            } else if (isDigit(b)) {
                behind = endOfDigits(start);
                itsValue = behind - start <= 4 ? number(start, behind) : NONE;
                itsKind = itsValue == NONE ? BAD : NUMBER;
            }
            kinds[tokens] = itsKind;
            values[tokens] = itsValue;
            places[tokens] = start;
            tokens++;
            return behind;
        }

        private int endOfLetters(int start) {
            int i = start;
            while (i < length && isLetter(bytes[i])) {
                i++;
            }
            return i;
        }

        private int endOfDigits(int start) {
            int i = start;
            while (i < length && isDigit(bytes[i])) {
                i++;
            }
            return i;
        }

        private int number(int from, int to) {
            int number = 0;
            for (int i = from; i < to; i++) {
                number = 10 * number + bytes[i] - '0';
            }
            return number;
        }

        /** Which of the words, parted by blanks, stands in the bytes from .. to. */
        private int keyword(String words, int from, int to) {
            int index = 0;
            int i = 0;
            while (i < words.length()) {
                int j = from;
                while (j < to && i < words.length() && words.charAt(i) == bytes[j]) {
                    i++;
                    j++;
                }
                if (j == to && (i >= words.length() || words.charAt(i) == ' ')) {
                    return index;
                }
                while (i < words.length() && words.charAt(i) != ' ') {
                    i++;
                }
                i++;
                index++;
            }
            return NONE;
        }

        private static boolean isLetter(int b) {
            return b >= 'a' && b <= 'z' || b >= 'A' && b <= 'Z';
        }

        private static boolean isDigit(int b) {
            return b >= '0' && b <= '9';
        }

        private static boolean isMark(int b) {
            return b == ';' || b >= '(' && b <= '+' || b == '-' || b == '/' || b >= '<' && b <= '>';
        }
    }

    /** Reads a TEXT into drafts, so that a FAULT leaves what was told before as it was. */
    private static final class Scribe {
        static final String LAW_WORDS =
            "warms slips cools when or and not near cold reads learnt said keeps called off glass time";
        static final int WHEN = 3;
        static final int OR = 4;
        static final int AND = 5;
        static final int NOT = 6;
        static final int NEARNESS = 7;
        static final int COLD = 8;
        static final int READS = 9;
        static final int LEARNT = 10;
        static final int SAID = 11;
        static final int KEEPING = 12;
        static final int CALLED = 13;
        static final int OFF = 14;
        static final int GLASS = 15;
        static final int TIME = 16;
        static final int NAMES = 17;
        static final String WALK_WORDS = "at glass say quiet shake wipe under out";
        static final int SAY = 2;
        static final int QUIET = 3;
        static final int SHAKE = 4;
        static final int WIPE = 5;
        static final int UNDER = 6;
        static final int OUT = 7;
        static final int AT_GLASS = 1;
        static final String NEAR_WORDS = "topic near";
        static final int TOPIC_NEAR = 1;
        static final String KEEPS_WORDS = "witness keeps";
        static final int WITNESS_KEEPS = 1;
        static final int MOST_OPEN = 8;
        static final int MOST_KEPT = 6;

        final Law law = new Law();
        final Walk walk = new Walk();
        final NearTopics nearTopics = new NearTopics();
        final int[] keeps = new int[WITNESSES];
        int faultKind;
        int faultPlace = NONE;
        private final Tape tape;
        private int number;
        private int glasses;
        private int witnesses;

        Scribe(Tape tape) {
            this.tape = tape;
        }

        /** How many lines TEXT k has; NONE for a FAULT or no such TEXT. */
        int readText(int k, Court c) {
            faultKind = 0;
            faultPlace = NONE;
            if (k < LAW || k > KEEPS) {
                return NONE;
            }
            glasses = c.glasses;
            witnesses = c.witnesses;
            law.used = 0;
            nearTopics.clearAll();
            for (int w = 0; w < WITNESSES; w++) {
                keeps[w] = 0;
            }
            tape.split(wordsOf(k));
            int line = 0;
            while (line <= MOST_LINES && tape.kind != Tape.END) {
                int head = tape.value;
                if (!takeHead(k, line)) {
                    return NONE;
                }
                if (!(k == LAW ? readLawLine(line, head) : readLine(k, line)) || !takeSign(';')) {
                    return NONE;
                }
                line++;
            }
            law.lines = line;
            walk.lines = line;
            nearTopics.lines = line;
            return line;
        }

        private static String wordsOf(int k) {
            switch (k) {
                case LAW:
                    return LAW_WORDS;
                case WALK:
                    return WALK_WORDS;
                case NEAR:
                    return NEAR_WORDS;
                default:
                    return KEEPS_WORDS;
            }
        }

        private boolean refuse(int kind) {
            faultKind = kind;
            faultPlace = tape.place;
            return false;
        }

        private boolean takeHead(int k, int line) {
            if (tape.kind != Tape.WORD || tape.value > (k == LAW ? COOLS : 0)) {
                return refuse(1);
            }
            if (line >= MOST_LINES) {
                return refuse(3);
            }
            tape.advance();
            return true;
        }

        private boolean takeSign(int sign) {
            if (!tape.isSign(sign)) {
                return refuse(1);
            }
            tape.advance();
            return true;
        }

        private boolean takeWord(int keyword) {
            if (!tape.isWord(keyword)) {
                return refuse(1);
            }
            tape.advance();
            return true;
        }

        private boolean takeNumber(int low, int high) {
            if (tape.kind != Tape.NUMBER) {
                return refuse(1);
            }
            if (tape.value < low || tape.value > high) {
                return refuse(2);
            }
            number = tape.value;
            tape.advance();
            return true;
        }

        /** A TOPIC that may not stand there, but is one, is refused with the kind; what is no TOPIC, as ever. */
        private boolean takeTopicUnless(boolean refused, int kind) {
            if (refused && tape.kind == Tape.NUMBER && isTopic(tape.value)) {
                return refuse(kind);
            }
            return takeNumber(0, TOPICS - 1);
        }

        private boolean readLine(int k, int line) {
            if (k == WALK) {
                return readWalkLine(line);
            }
            return k == NEAR ? readNearLine() : readKeepsLine();
        }

        private boolean readWalkLine(int line) {
            if (!takeNumber(0, 999)) {
                return false;
            }
            walk.minute[line] = number;
            if (!takeWord(AT_GLASS) || !takeNumber(0, glasses - 1)) {
                return false;
            }
            walk.glass[line] = number;
            int deed = tape.value;
            if (tape.kind != Tape.WORD || deed < SAY || deed > OUT) {
                return refuse(1);
            }
            tape.advance();
            walk.deed[line] = deed;
            number = NONE;
            if (deed == SAY && !takeNumber(0, TOPICS - 1)) {
                return false;
            }
            if (deed == UNDER && !takeNumber(0, witnesses - 1)) {
                return false;
            }
            walk.value[line] = number;
            return true;
        }

        private boolean readNearLine() {
            if (!takeNumber(0, TOPICS - 1)) {
                return false;
            }
            int a = number;
            if (!takeWord(TOPIC_NEAR) || !takeTopicUnless(tape.value == a, 2)) {
                return false;
            }
            int b = number;
            if (!takeNumber(1, 9)) {
                return false;
            }
            nearTopics.tell(a, b, number);
            return true;
        }

        private boolean readKeepsLine() {
            if (!takeNumber(0, witnesses - 1)) {
                return false;
            }
            int witness = number;
            if (!takeWord(WITNESS_KEEPS)) {
                return false;
            }
            int kept = 0;
            for (int i = 0; i <= MOST_KEPT; i++) {
                if (!takeTopicUnless(i == MOST_KEPT, 3)) {
                    return false;
                }
                kept |= 1 << number;
                if (tape.kind != Tape.NUMBER) {
                    break;
                }
            }
            keeps[witness] = kept;
            return true;
        }

        private boolean readLawLine(int line, int head) {
            law.word[line] = head;
            law.from[line] = law.used;
            if (!readSum()) {
                return false;
            }
            law.mid[line] = law.used;
            if (tape.isWord(WHEN)) {
                tape.advance();
                if (!readAny(0)) {
                    return false;
                }
            }
            law.to[line] = law.used;
            return true;
        }

        /** B; an or waits until the A behind it is whole, since and binds closer. */
        private boolean readAny(int open) {
            if (!readCondition(open)) {
                return false;
            }
            boolean waits = false;
            for (int i = 0; i < TAPE_BYTES && (tape.isWord(OR) || tape.isWord(AND)); i++) {
                boolean both = tape.isWord(AND);
                if (!both && waits) {
                    law.emit(Law.SIGN + '|');
                }
                waits = waits || !both;
                tape.advance();
                if (!readCondition(open)) {
                    return false;
                }
                if (both) {
                    law.emit(Law.SIGN + '&');
                }
            }
            if (waits) {
                law.emit(Law.SIGN + '|');
            }
            return true;
        }

        private boolean readCondition(int open) {
            boolean denied = tape.isWord(NOT);
            boolean bracket = tape.isSign('(');
            if ((denied || bracket) && open >= MOST_OPEN) {
                return refuse(3);
            }
            if (denied) {
                tape.advance();
                boolean read = readCondition(open + 1);
                law.emit(Law.SIGN + '!');
                return read;
            }
            if (bracket) {
                tape.advance();
                return readAny(open + 1) && takeSign(')');
            }
            if (!readSum()) {
                return false;
            }
            int sign = tape.value;
            if (!tape.isSign('<') && !tape.isSign('=') && !tape.isSign('>')) {
                return refuse(1);
            }
            tape.advance();
            boolean read = readSum();
            law.emit(Law.SIGN + sign);
            return read;
        }

        /** E; a + or - waits until the T behind it is whole, since * and / bind closer. */
        private boolean readSum() {
            if (!readUnit()) {
                return false;
            }
            int waits = 0;
            for (int i = 0; i < TAPE_BYTES && isJoin(); i++) {
                int sign = tape.value;
                boolean closer = sign == '*' || sign == '/';
                if (!closer && waits != 0) {
                    law.emit(waits);
                }
                tape.advance();
                if (sign == '/' ? !takeNumber(1, 9999) : !readUnit()) {
                    return false;
                }
                if (sign == '/') {
                    law.emit(number);
                }
                if (closer) {
                    law.emit(Law.SIGN + sign);
                } else {
                    waits = Law.SIGN + sign;
                }
            }
            if (waits != 0) {
                law.emit(waits);
            }
            return true;
        }

        private boolean isJoin() {
            return tape.isSign('+') || tape.isSign('-') || tape.isSign('*') || tape.isSign('/');
        }

        private boolean readUnit() {
            if (tape.kind == Tape.NUMBER) {
                law.emit(tape.value);
            } else if (tape.kind == Tape.WORD && tape.value >= NEARNESS) {
                law.emit(Law.NAME + tape.value);
            } else {
                return refuse(1);
            }
            tape.advance();
            return true;
        }
    }

    /** What is only thought; its rows are made once and used again. */
    private static final class Mind {
        private static final int NEVER = 1000000;
        private static final int MODULUS = 1000000007;
        private final int[] worst = new int[256];
        private final int[] candidates = new int[8];
        private final int[] parts = new int[TOPICS * (KEPT_BACK + 1)];
        private final int[] values = new int[4];
        private final int[] steps = new int[100];
        private final int[] queue = new int[100];
        private final int[] nimbers = new int[41];
        private int nimbersKnown;
        private final int[] basis = new int[16];
        private final int[] least = new int[41];
        private final int[] price = new int[41 * 41];
        private int priceKnown = 1;
        private final long[] loud = new long[6];
        private final int[] heads = new int[32];

        int fitting(Row warmths, NearTopics topics, int k, int what) {
            int count = 0;
            int first = NONE;
            int set = (1 << k) - 1;
            for (int i = 0; i < 560 && set < 1 << TOPICS; i++) {
                if (fitsAll(warmths, topics, set)) {
                    count++;
                    if (first == NONE) {
                        first = set;
                    }
                }
                set = nextSet(set);
            }
            return what == 0 ? count : first;
        }

        /** The next greater number with as many bits, so that the first that fits is the least. */
        private static int nextSet(int set) {
            int low = set & -set;
            int raised = set + low;
            return raised | (set ^ raised) >>> (2 + Integer.numberOfTrailingZeros(low));
        }

        private static boolean fitsAll(Row warmths, NearTopics topics, int set) {
            for (int i = 0; i < warmths.size; i++) {
                if (topics.nearness(set, warmths.first[i]) != warmths.second[i]) {
                    return false;
                }
            }
            return true;
        }

        int fewestWords(NearTopics topics, int set, int what) {
            int count = listCandidates(set);
            if (count < 2) {
                return what == 0 && count == 1 ? 0 : NONE;
            }
            sortByNearness(topics, count);
            int all = (1 << count) - 1;
            for (int left = 1; left <= all; left++) {
                worst[left] = fewestFor(left);
            }
            if (what == 0) {
                return worst[all];
            }
            for (int t = 0; t < TOPICS; t++) {
                if (wordsAfter(t, all) == worst[all]) {
                    return t;
                }
            }
            return NONE;
        }

        private int listCandidates(int set) {
            int count = 0;
            for (int t = 0; t < TOPICS && count < candidates.length; t++) {
                if ((set >> t & 1) == 1) {
                    candidates[count] = t;
                    count++;
                }
            }
            return count;
        }

        /** Of each TOPIC that may be said and each NEARNESS: which candidates would show it. */
        private void sortByNearness(NearTopics topics, int count) {
            for (int i = 0; i < parts.length; i++) {
                parts[i] = 0;
            }
            for (int t = 0; t < TOPICS; t++) {
                for (int i = 0; i < count; i++) {
                    int shows = topics.nearness(1 << candidates[i], t);
                    parts[t * (KEPT_BACK + 1) + shows] |= 1 << i;
                }
            }
        }

        private int fewestFor(int left) {
            if ((left & left - 1) == 0) {
                return 0;
            }
            int fewest = NEVER;
            for (int t = 0; t < TOPICS; t++) {
                fewest = Math.min(fewest, wordsAfter(t, left));
            }
            return fewest;
        }

        private int wordsAfter(int topic, int left) {
            int most = 0;
            for (int n = 0; n <= KEPT_BACK; n++) {
                int part = left & parts[topic * (KEPT_BACK + 1) + n];
                if (part == left) {
                    return NEVER;
                }
                most = Math.max(most, worst[part]);
            }
            return most + 1;
        }

        int chance(Row worlds, int i, int is, int what) {
            int above = share(worlds, i, is);
            int below = 0;
            for (int j = 0; j < worlds.size; j++) {
                below += share(worlds, j, is);
            }
            int part = commonPart(above, below);
            if (part == 0) {
                return NONE;
            }
            return what == 0 ? above / part : below / part;
        }

        private static int share(Row worlds, int i, int is) {
            int right = (is >> 8) - 1;
            int asRead = 8 - Integer.bitCount((worlds.second[i] ^ is) & 255);
            int share = worlds.first[i];
            for (int n = 0; n < asRead; n++) {
                share *= right;
            }
            return share;
        }

        private static int commonPart(int a, int b) {
            int x = a;
            int y = b;
            for (int n = 0; n < 100 && y != 0; n++) {
                int rest = x % y;
                x = y;
                y = rest;
            }
            return x;
        }

        int leastTerm(Row points) {
            for (int a = 0; a <= 9; a++) {
                if (isUnit(points, a)) {
                    return 1;
                }
            }
            return isLonger(points, false) ? 2 : isLonger(points, true) ? 3 : NONE;
        }

        /** A unit is 0 for x, else its number. */
        private static int unitAt(Row points, int unit, int i) {
            return unit == 0 ? points.first[i] : unit;
        }

        private static boolean isUnit(Row points, int unit) {
            for (int i = 0; i < points.size; i++) {
                if (unitAt(points, unit, i) != points.second[i]) {
                    return false;
                }
            }
            return true;
        }

        private boolean isLonger(Row points, boolean three) {
            for (int a = 0; a <= 9; a++) {
                for (int b = 0; b <= 9; b++) {
                    for (int how = 0; how < 3; how++) {
                        joinUnits(points, a, b, how);
                        if (three ? isWithThird(points) : isReached(points)) {
                            return true;
                        }
                    }
                }
            }
            return false;
        }

        private void joinUnits(Row points, int a, int b, int how) {
            for (int i = 0; i < points.size; i++) {
                values[i] = combined(unitAt(points, a, i), unitAt(points, b, i), how);
            }
        }

        private static int combined(int a, int b, int how) {
            switch (how) {
                case 0:
                    return a + b;
                case 1:
                    return a - b;
                case 2:
                    return a * b;
                default:
                    return b - a;
            }
        }

        private boolean isReached(Row points) {
            for (int i = 0; i < points.size; i++) {
                if (values[i] != points.second[i]) {
                    return false;
                }
            }
            return true;
        }

        private boolean isWithThird(Row points) {
            for (int c = 0; c <= 9; c++) {
                for (int how = 0; how < 4; how++) {
                    if (isThird(points, c, how)) {
                        return true;
                    }
                }
            }
            return false;
        }

        private boolean isThird(Row points, int c, int how) {
            for (int i = 0; i < points.size; i++) {
                if (combined(values[i], unitAt(points, c, i), how) != points.second[i]) {
                    return false;
                }
            }
            return true;
        }

        int fewestSayings(Row sayings, int from, int goal) {
            for (int h = 0; h < steps.length; h++) {
                steps[h] = NONE;
            }
            steps[from] = 0;
            queue[0] = from;
            int count = 1;
            for (int i = 0; i < count && steps[goal] == NONE; i++) {
                int h = queue[i];
                for (int s = 0; s < sayings.size; s++) {
                    int heat = afterSaying(h, sayings.first[s], sayings.second[s]);
                    if (heat >= 0 && heat < steps.length && count < queue.length && steps[heat] == NONE) {
                        steps[heat] = steps[h] + 1;
                        queue[count] = heat;
                        count++;
                    }
                }
            }
            return steps[goal];
        }

        private static int afterSaying(int heat, int how, int v) {
            switch (how) {
                case 0:
                    return heat - v;
                case 1:
                    return heat + v;
                case 2:
                    return heat / 2;
                default:
                    return 2 * heat;
            }
        }

        int winningPart(Row heaps, int what) {
            int all = 0;
            for (int i = 0; i < heaps.size; i++) {
                learnNimbers(heaps.first[i]);
                all ^= nimbers[heaps.first[i]];
            }
            for (int i = 0; i < heaps.size; i++) {
                int heap = heaps.first[i];
                int others = all ^ nimbers[heap];
                for (int a = 1; 2 * a < heap; a++) {
                    if ((nimbers[a] ^ nimbers[heap - a]) == others) {
                        return what == 0 ? i : a;
                    }
                }
            }
            return NONE;
        }

        private void learnNimbers(int upTo) {
            for (int heap = nimbersKnown + 1; heap <= upTo && heap < nimbers.length; heap++) {
                int seen = 0;
                for (int a = 1; 2 * a < heap; a++) {
                    seen |= 1 << (nimbers[a] ^ nimbers[heap - a]);
                }
                nimbers[heap] = Integer.numberOfTrailingZeros(~seen);
                nimbersKnown = heap;
            }
        }

        int rank(Row sets) {
            for (int bit = 0; bit < basis.length; bit++) {
                basis[bit] = 0;
            }
            int rank = 0;
            for (int i = 0; i < sets.size; i++) {
                int left = sets.first[i];
                for (int bit = basis.length - 1; bit >= 0 && left != 0; bit--) {
                    if ((left >> bit & 1) == 0) {
                        continue;
                    }
                    if (basis[bit] == 0) {
                        basis[bit] = left;
                        rank++;
                        left = 0;
                    } else {
                        left ^= basis[bit];
                    }
                }
            }
            return rank;
        }

        int fewestLaid(Row sets, int goal) {
            int fewest = NONE;
            for (int chosen = 0; chosen < 1 << sets.size; chosen++) {
                int laid = 0;
                for (int i = 0; i < sets.size; i++) {
                    if ((chosen >> i & 1) == 1) {
                        laid ^= sets.first[i];
                    }
                }
                int count = Integer.bitCount(chosen);
                if (laid == goal && (fewest == NONE || count < fewest)) {
                    fewest = count;
                }
            }
            return fewest;
        }

        int leastChange(int[] costs, int n, int p, int what) {
            least[0] = 0;
            int firstKept = NONE;
            for (int days = 1; days <= n; days++) {
                least[days] = NEVER;
                int spent = p;
                for (int kept = 1; kept <= days && kept <= costs.length; kept++) {
                    spent += costs[kept - 1];
                    if (spent + least[days - kept] < least[days]) {
                        least[days] = spent + least[days - kept];
                        firstKept = kept;
                    }
                }
            }
            return what == 0 ? least[n] : firstKept;
        }

        int dearest(int n, int what) {
            learnPrices(n);
            if (what == 0) {
                return priceOf(1, n);
            }
            for (int v = 1; v <= n && n > 1; v++) {
                if (priceBy(1, n, v) == priceOf(1, n)) {
                    return v;
                }
            }
            return NONE;
        }

        private void learnPrices(int upTo) {
            for (int high = priceKnown + 1; high <= upTo && high <= 40; high++) {
                for (int low = high - 1; low >= 1; low--) {
                    int best = NEVER;
                    for (int v = low; v <= high; v++) {
                        best = Math.min(best, priceBy(low, high, v));
                    }
                    price[41 * low + high] = best;
                }
                priceKnown = high;
            }
        }

        private int priceOf(int low, int high) {
            return low >= high ? 0 : price[41 * low + high];
        }

        private int priceBy(int low, int high, int asked) {
            return asked + Math.max(priceOf(low, asked - 1), priceOf(asked + 1, high));
        }

        int steadiest(Row readings, int d, int what) {
            int longest = 0;
            int where = NONE;
            for (int i = 0; i < readings.size; i++) {
                int run = steadyFrom(readings, i, d);
                if (run > longest) {
                    longest = run;
                    where = i;
                }
            }
            return what == 0 ? longest : where;
        }

        private static int steadyFrom(Row readings, int start, int d) {
            int low = readings.first[start];
            int high = low;
            for (int i = start; i < readings.size; i++) {
                low = Math.min(low, readings.first[i]);
                high = Math.max(high, readings.first[i]);
                if (high - low > d) {
                    return i - start;
                }
            }
            return readings.size - start;
        }

        /** loud[j]: the ways so far that end with just j minutes that are not quiet. */
        int quietWays(int n, int k) {
            loud[0] = 1;
            for (int j = 1; j < k; j++) {
                loud[j] = 0;
            }
            long all = 1;
            for (int i = 0; i < n; i++) {
                for (int j = k - 1; j > 0; j--) {
                    loud[j] = loud[j - 1];
                }
                loud[0] = all;
                all = 0;
                for (int j = 0; j < k; j++) {
                    all = (all + loud[j]) % MODULUS;
                }
            }
            return (int) all;
        }

        int lettersNeeded(Row names) {
            int most = 0;
            for (int i = 0; i < names.size; i++) {
                for (int j = 0; j < i; j++) {
                    if (names.first[i] == names.first[j]) {
                        return NONE;
                    }
                    most = Math.max(most, 1 + sharedLetters(names.first[i], names.first[j]));
                }
            }
            return most;
        }

        private static int letterCount(int name) {
            return name > 999 ? 4 : name > 99 ? 3 : name > 9 ? 2 : 1;
        }

        private static int beginning(int name, int letters) {
            int head = name;
            for (int n = letterCount(name); n > letters; n--) {
                head /= 10;
            }
            return head;
        }

        private static int sharedLetters(int a, int b) {
            int most = Math.min(letterCount(a), letterCount(b));
            for (int n = 1; n <= most; n++) {
                if (beginning(a, n) != beginning(b, n)) {
                    return n - 1;
                }
            }
            return most;
        }

        int beginnings(Row names) {
            int count = 0;
            for (int i = 0; i < names.size; i++) {
                int head = names.first[i];
                for (int n = 0; n < 4 && head > 0; n++) {
                    if (count < heads.length && !isHead(head, count)) {
                        heads[count] = head;
                        count++;
                    }
                    head /= 10;
                }
            }
            return count;
        }

        private boolean isHead(int head, int count) {
            for (int i = 0; i < count; i++) {
                if (heads[i] == head) {
                    return true;
                }
            }
            return false;
        }

        private static int weightOf(Row jurors, int set) {
            int sum = 0;
            for (int i = 0; i < jurors.size; i++) {
                if ((set >> i & 1) == 1) {
                    sum += jurors.first[i];
                }
            }
            return sum;
        }

        int turns(Row jurors, int q, int i) {
            int count = 0;
            for (int set = 0; set < 1 << jurors.size; set++) {
                if ((set >> i & 1) == 1) {
                    continue;
                }
                int sum = weightOf(jurors, set);
                if (sum < q && sum + jurors.first[i] >= q) {
                    count++;
                }
            }
            return count;
        }

        int fewestEnough(Row jurors, int q) {
            int best = NONE;
            for (int set = 0; set < 1 << jurors.size; set++) {
                boolean fewer = best == NONE || Integer.bitCount(set) < Integer.bitCount(best);
                if (fewer && weightOf(jurors, set) >= q) {
                    best = set;
                }
            }
            return best;
        }
    }
}
