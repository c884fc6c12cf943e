import java.util.ArrayDeque;
import java.util.ArrayList;
import java.util.Arrays;
import java.util.HashMap;
import java.util.HashSet;
import java.util.List;
import java.util.Map;
import java.util.Set;
import java.util.TreeMap;
import java.util.TreeSet;

/**
 * The document once more, written as plainly as the whole Java library allows and by other ways than
 * the class: a parse tree instead of code, whole copies instead of counts, searches instead of tables.
 */
final class Mirror {
    static final int NONE = -1;

    static final class Glass {
        int learnt;
        int reads = 300;
        int under = NONE;
        int said = NONE;
        int off;
    }

    static final class Witness {
        int cold;
        int called;
        int given;
        Set<Integer> keeps = new TreeSet<>();
    }

    /** One node of THE LAW's tree. */
    record Node(String op, int number, Node left, Node right) { }

    record LawLine(String word, Node e, Node b) { }

    record WalkLine(int minute, int glass, String deed, int value) { }

    record BookLine(int time, int what, int which, int much) { }

    static final class All {
        int state;
        int time;
        List<Glass> glasses = new ArrayList<>();
        List<Witness> witnesses = new ArrayList<>();
        List<BookLine> book = new ArrayList<>();
        List<LawLine> law = new ArrayList<>();
        List<WalkLine> walk = new ArrayList<>();
        Map<Integer, Integer> near = new TreeMap<>();
        int nearLines;
        int keepsLines;
        Map<String, List<int[]>> told = new HashMap<>();
        int[] costs = new int[8];

        All copy() {
            All a = new All();
            a.state = state;
            a.time = time;
            for (Glass g : glasses) {
                Glass h = new Glass();
                h.learnt = g.learnt;
                h.reads = g.reads;
                h.under = g.under;
                h.said = g.said;
                h.off = g.off;
                a.glasses.add(h);
            }
            for (Witness w : witnesses) {
                Witness v = new Witness();
                v.cold = w.cold;
                v.called = w.called;
                v.given = w.given;
                v.keeps = new TreeSet<>(w.keeps);
                a.witnesses.add(v);
            }
            a.book = new ArrayList<>(book);
            a.law = law;
            a.walk = walk;
            a.near = near;
            a.nearLines = nearLines;
            a.keepsLines = keepsLines;
            for (Map.Entry<String, List<int[]>> e : told.entrySet()) {
                a.told.put(e.getKey(), new ArrayList<>(e.getValue()));
            }
            a.costs = costs.clone();
            return a;
        }
    }

    private All now = new All();
    private All image;
    private final ArrayDeque<All> pasts = new ArrayDeque<>();
    private final List<Integer> tape = new ArrayList<>();
    private int faultKind;
    private int faultPlace = NONE;

    // ---- telling

    int state(int v) {
        int was = now.state;
        now.state = v;
        pasts.clear();
        return was;
    }

    int glass(int learnt) {
        if (learnt < 0 || learnt > 99 || now.glasses.size() == 6) {
            return NONE;
        }
        pasts.clear();
        Glass g = new Glass();
        g.learnt = learnt;
        now.glasses.add(g);
        return now.glasses.size() - 1;
    }

    int witness(int cold) {
        if (cold < 0 || cold > 9 || now.witnesses.size() == 12) {
            return NONE;
        }
        pasts.clear();
        Witness w = new Witness();
        w.cold = cold;
        now.witnesses.add(w);
        return now.witnesses.size() - 1;
    }

    boolean set(int what, int who, int v) {
        if (what < 0 || what > 2 || who < 0 || who >= (what == 2 ? now.witnesses.size() : now.glasses.size())) {
            return false;
        }
        int[] low = {0, 300, 0};
        int[] high = {99, 420, 9};
        if (v < low[what] || v > high[what]) {
            return false;
        }
        pasts.clear();
        if (what == 0) {
            now.glasses.get(who).learnt = v;
        } else if (what == 1) {
            now.glasses.get(who).reads = v;
        } else {
            now.witnesses.get(who).cold = v;
        }
        return true;
    }

    boolean act(int what, int who, int v) {
        if (who < 0 || who >= now.glasses.size()) {
            return false;
        }
        All before = now.copy();
        Glass g = now.glasses.get(who);
        boolean done = false;
        if (what == 0) {
            done = under(now, who, v, true);
        } else if (what == 1) {
            done = out(now, who, true);
        } else if (what == 2 && v >= 0 && v <= 15 && g.said != v) {
            g.said = v;
            done = true;
        } else if (what == 3 && g.reads > 300) {
            g.reads = 300;
            done = true;
        } else if (what == 4 && g.learnt > 0) {
            g.learnt = 0;
            done = true;
        }
        if (done) {
            keep(before);
        }
        return done;
    }

    private void keep(All before) {
        pasts.addLast(before);
        if (pasts.size() > 6) {
            pasts.removeFirst();
        }
    }

    int minutes(int n) {
        if (n < 1 || n > 60 || now.time + n > 9999) {
            return NONE;
        }
        int before = offs(now);
        for (int i = 0; i < n; i++) {
            keep(now.copy());
            minute(now, true);
        }
        return offs(now) - before;
    }

    private static int offs(All a) {
        int sum = 0;
        for (Glass g : a.glasses) {
            sum += g.off;
        }
        return sum;
    }

    private void write(All a, int what, int which, int much) {
        if (a.book.size() < 150) {
            a.book.add(new BookLine(a.time, what, which, much));
        }
    }

    private int holder(All a, int w) {
        for (int g = 0; g < a.glasses.size(); g++) {
            if (a.glasses.get(g).under == w) {
                return g;
            }
        }
        return NONE;
    }

    private boolean under(All a, int g, int w, boolean real) {
        if (w < 0 || w >= a.witnesses.size() || a.glasses.get(g).under != NONE || holder(a, w) != NONE) {
            return false;
        }
        a.glasses.get(g).under = w;
        a.witnesses.get(w).called++;
        write(a, 0, g, w);
        return true;
    }

    private boolean out(All a, int g, boolean real) {
        int w = a.glasses.get(g).under;
        if (w == NONE) {
            return false;
        }
        a.glasses.get(g).under = NONE;
        write(a, 1, g, w);
        return true;
    }

    private void minute(All a, boolean real) {
        for (WalkLine l : a.walk) {
            if (l.minute != a.time) {
                continue;
            }
            Glass g = a.glasses.get(l.glass);
            switch (l.deed) {
                case "say" -> g.said = l.value;
                case "quiet" -> g.said = NONE;
                case "shake" -> g.reads = 300;
                case "wipe" -> g.learnt = 0;
                case "under" -> under(a, l.glass, l.value, real);
                default -> out(a, l.glass, real);
            }
        }
        for (int i = 0; i < a.glasses.size(); i++) {
            if (a.glasses.get(i).under != NONE) {
                glassMinute(a, i, real);
            }
        }
        for (Glass g : a.glasses) {
            g.said = NONE;
        }
        a.time++;
    }

    private void glassMinute(All a, int i, boolean real) {
        Glass g = a.glasses.get(i);
        int slips = tells(a, i, "slips", g.said);
        boolean slipped = slips >= 500;
        if (real) {
            slipped = false;
            if (slips > 0) {
                a.state = a.state * 1664525 + 1013904223;
                long high = (a.state & 0xffffffffL) / 256;
                slipped = high % 1000 < slips;
            }
        }
        if (slipped) {
            write(a, 3, i, g.reads);
            g.reads = 300;
            return;
        }
        if (g.said == NONE) {
            g.reads = Math.max(300, g.reads - tells(a, i, "cools", g.said));
            return;
        }
        int warms = tells(a, i, "warms", g.said);
        g.reads += warms;
        if (nearness(a, a.witnesses.get(g.under).keeps, g.said) > 0) {
            g.learnt = Math.min(99, g.learnt + 1);
        }
        if (warms > 0) {
            write(a, 2, i, warms);
        }
        if (g.reads > 420) {
            g.reads = 420;
            g.off++;
            a.witnesses.get(g.under).given++;
            write(a, 4, i, g.under);
            g.under = NONE;
        }
    }

    private static int nearOf(All a, int s, int t) {
        return a.near.getOrDefault(Math.min(s, t) * 16 + Math.max(s, t), 0);
    }

    private static int nearness(All a, Set<Integer> keeps, int topic) {
        if (topic == NONE) {
            return 0;
        }
        if (keeps.contains(topic)) {
            return 10;
        }
        return keeps.stream().mapToInt(k -> nearOf(a, k, topic)).max().orElse(0);
    }

    private static int tells(All a, int i, String word, int said) {
        int high = word.equals("slips") ? 1000 : 99;
        for (LawLine l : a.law) {
            if (l.word.equals(word) && (l.b == null || value(a, i, said, l.b) == 1)) {
                return Math.max(0, Math.min(high, value(a, i, said, l.e)));
            }
        }
        return switch (word) {
            case "slips" -> 0;
            case "cools" -> 5;
            default -> Math.max(0, 3 * name(a, i, said, "near") - 2 * name(a, i, said, "cold"));
        };
    }

    private static int value(All a, int i, int said, Node n) {
        if (n.op.equals("number")) {
            return n.number;
        }
        if (n.left == null) {
            return name(a, i, said, n.op);
        }
        int left = value(a, i, said, n.left);
        if (n.op.equals("not")) {
            return left == 1 ? 0 : 1;
        }
        int right = value(a, i, said, n.right);
        return switch (n.op) {
            case "+" -> left + right;
            case "-" -> left - right;
            case "*" -> left * right;
            case "/" -> left / right;
            case "<" -> left < right ? 1 : 0;
            case "=" -> left == right ? 1 : 0;
            case ">" -> left > right ? 1 : 0;
            case "or" -> Math.max(left, right);
            default -> Math.min(left, right);
        };
    }

    private static int name(All a, int i, int said, String name) {
        Glass g = a.glasses.get(i);
        Witness w = g.under == NONE ? null : a.witnesses.get(g.under);
        return switch (name) {
            case "near" -> w == null ? 0 : nearness(a, w.keeps, said);
            case "cold" -> w == null ? 0 : w.cold;
            case "keeps" -> w == null ? 0 : w.keeps.size();
            case "called" -> w == null ? 0 : w.called;
            case "reads" -> g.reads;
            case "learnt" -> g.learnt;
            case "off" -> g.off;
            case "said" -> said == NONE ? 0 : 1;
            case "glass" -> i;
            default -> a.time;
        };
    }

    // ---- the tape and the texts

    int feed(int a, int b, int c, int d, int e) {
        if (tape.size() + 20 > 400) {
            return NONE;
        }
        for (int v : new int[] {a, b, c, d, e}) {
            for (byte q : java.nio.ByteBuffer.allocate(4).putInt(v).array()) {
                tape.add(q & 255);
            }
        }
        return tape.size();
    }

    boolean end(int n) {
        if (n < 0 || n > tape.size()) {
            return false;
        }
        tape.subList(n, tape.size()).clear();
        return true;
    }

    /** The first FAULT leaves the reading by this. */
    private static final class Fault extends RuntimeException {
        private static final long serialVersionUID = 1;
        final int kind;
        final int place;

        Fault(int kind, int place) {
            this.kind = kind;
            this.place = place;
        }
    }

    record Token(String text, int place) { }

    private List<Token> tokens;
    private int at;

    int text(int k) {
        faultKind = 0;
        faultPlace = NONE;
        StringBuilder all = new StringBuilder();
        tape.forEach(b -> all.append((char) (int) b));
        tape.clear();
        if (k < 0 || k > 3) {
            return NONE;
        }
        split(all.toString());
        try {
            return readText(k);
        } catch (Fault f) {
            faultKind = f.kind;
            faultPlace = f.place;
            return NONE;
        }
    }

    private void split(String text) {
        tokens = new ArrayList<>();
        at = 0;
        java.util.regex.Matcher m = java.util.regex.Pattern.compile("[a-zA-Z]+|[0-9]+|[^ \n]", java.util.regex.Pattern.DOTALL)
            .matcher(text);
        while (m.find()) {
            tokens.add(new Token(m.group(), m.start()));
        }
        tokens.add(new Token("", text.length()));
    }

    private String peek() {
        return tokens.get(at).text;
    }

    private Fault faulty(int kind) {
        return new Fault(kind, tokens.get(at).place);
    }

    private String take(String... any) {
        String t = peek();
        if (!Arrays.asList(any).contains(t)) {
            throw faulty(1);
        }
        at++;
        return t;
    }

    private boolean isNumber() {
        return peek().matches("[0-9]{1,4}");
    }

    private int takeNumber(int low, int high) {
        if (!isNumber()) {
            throw faulty(1);
        }
        int v = Integer.parseInt(peek());
        if (v < low || v > high) {
            throw faulty(2);
        }
        at++;
        return v;
    }

    private int readText(int k) {
        String[][] heads = {{"warms", "slips", "cools"}, {"at"}, {"topic"}, {"witness"}};
        List<LawLine> law = new ArrayList<>();
        List<WalkLine> walk = new ArrayList<>();
        Map<Integer, Integer> near = new TreeMap<>();
        Map<Integer, Set<Integer>> keeps = new TreeMap<>();
        int lines = 0;
        while (!peek().isEmpty()) {
            String head = take(heads[k]);
            lines++;
            if (lines == 17) {
                at--;
                throw faulty(3);
            }
            if (k == 0) {
                Node e = sum();
                Node b = null;
                if (peek().equals("when")) {
                    at++;
                    b = any(0);
                }
                law.add(new LawLine(head, e, b));
            } else if (k == 1) {
                walk.add(walkLine());
            } else if (k == 2) {
                nearLine(near);
            } else {
                keepsLine(keeps);
            }
            take(";");
        }
        tell(k, lines, law, walk, near, keeps);
        return lines;
    }

    private void tell(int k, int lines, List<LawLine> law, List<WalkLine> walk, Map<Integer, Integer> near,
            Map<Integer, Set<Integer>> keeps) {
        if (k == 0) {
            now.law = law;
        } else if (k == 1) {
            now.walk = walk;
            pasts.clear();
        } else if (k == 2) {
            now.near = near;
            now.nearLines = lines;
        } else {
            for (int w = 0; w < now.witnesses.size(); w++) {
                now.witnesses.get(w).keeps = keeps.getOrDefault(w, new TreeSet<>());
            }
            now.keepsLines = lines;
            pasts.clear();
        }
    }

    private WalkLine walkLine() {
        int minute = takeNumber(0, 999);
        take("glass");
        int glass = takeNumber(0, now.glasses.size() - 1);
        String deed = take("say", "quiet", "shake", "wipe", "under", "out");
        int value = NONE;
        if (deed.equals("say")) {
            value = takeNumber(0, 15);
        } else if (deed.equals("under")) {
            value = takeNumber(0, now.witnesses.size() - 1);
        }
        return new WalkLine(minute, glass, deed, value);
    }

    private void nearLine(Map<Integer, Integer> near) {
        int s = takeNumber(0, 15);
        take("near");
        int t = takeNumber(0, 15);
        if (s == t) {
            at--;
            throw faulty(2);
        }
        near.merge(Math.min(s, t) * 16 + Math.max(s, t), takeNumber(1, 9), Math::max);
    }

    private void keepsLine(Map<Integer, Set<Integer>> keeps) {
        int w = takeNumber(0, now.witnesses.size() - 1);
        take("keeps");
        List<Integer> listed = new ArrayList<>();
        do {
            listed.add(takeNumber(0, 15));
            if (listed.size() == 7) {
                at--;
                throw faulty(3);
            }
        } while (isNumber());
        keeps.put(w, new TreeSet<>(listed));
    }

    private Node any(int open) {
        Node n = both(open);
        while (peek().equals("or")) {
            at++;
            n = new Node("or", 0, n, both(open));
        }
        return n;
    }

    private Node both(int open) {
        Node n = condition(open);
        while (peek().equals("and")) {
            at++;
            n = new Node("and", 0, n, condition(open));
        }
        return n;
    }

    private Node condition(int open) {
        if (peek().equals("not") || peek().equals("(")) {
            if (open == 8) {
                throw faulty(3);
            }
            if (take("not", "(").equals("not")) {
                return new Node("not", 0, condition(open + 1), null);
            }
            Node n = any(open + 1);
            take(")");
            return n;
        }
        Node left = sum();
        String sign = take("<", "=", ">");
        return new Node(sign, 0, left, sum());
    }

    private Node sum() {
        Node n = product();
        while (peek().equals("+") || peek().equals("-")) {
            String sign = take("+", "-");
            n = new Node(sign, 0, n, product());
        }
        return n;
    }

    private Node product() {
        Node n = unit();
        while (peek().equals("*") || peek().equals("/")) {
            String sign = take("*", "/");
            n = new Node(sign, 0, n, sign.equals("*") ? unit() : new Node("number", takeNumber(1, 9999), null, null));
        }
        return n;
    }

    private Node unit() {
        if (isNumber()) {
            return new Node("number", takeNumber(0, 9999), null, null);
        }
        return new Node(take("near", "cold", "reads", "learnt", "said", "keeps", "called", "off", "glass", "time"), 0, null, null);
    }

    int fault(int what) {
        return what == 0 ? faultKind : what == 1 ? faultPlace : NONE;
    }

    // ---- asking

    int of(int glass, int what) {
        if (glass < 0 || glass >= now.glasses.size() || what < 0 || what > 8) {
            return -2;
        }
        Glass g = now.glasses.get(glass);
        return switch (what) {
            case 0 -> g.learnt;
            case 1 -> g.reads;
            case 2 -> g.under;
            case 3 -> g.said;
            case 4 -> g.off;
            case 5 -> tells(now, glass, "warms", g.said);
            case 6 -> tells(now, glass, "slips", g.said);
            case 7 -> tells(now, glass, "cools", g.said);
            default -> name(now, glass, g.said, "near");
        };
    }

    private static int bits(Set<Integer> set) {
        return set.stream().mapToInt(t -> 1 << t).sum();
    }

    int who(int witness, int what) {
        if (witness < 0 || witness >= now.witnesses.size() || what < 0 || what > 25 || what > 4 && what < 10) {
            return -2;
        }
        Witness w = now.witnesses.get(witness);
        return switch (what) {
            case 0 -> w.cold;
            case 1 -> bits(w.keeps);
            case 2 -> w.called;
            case 3 -> w.given;
            case 4 -> holder(now, witness);
            default -> nearness(now, w.keeps, what - 10);
        };
    }

    int near(int a, int b) {
        return a < 0 || b < 0 || a > 15 || b > 15 ? NONE : nearOf(now, a, b);
    }

    int book(int i, int what) {
        if (i < 0 || i >= now.book.size() || what < 0 || what > 3) {
            return NONE;
        }
        BookLine l = now.book.get(i);
        return new int[] {l.time, l.what, l.which, l.much}[what];
    }

    int goes(int n, int what) {
        if (n < 1 || n > 60 || what < 0 || what > 3) {
            return NONE;
        }
        All a = now.copy();
        for (int i = 0; i < n; i++) {
            minute(a, false);
        }
        return switch (what) {
            case 0 -> a.glasses.stream().mapToInt(g -> g.reads).sum();
            case 1 -> offs(a);
            case 2 -> a.glasses.stream().mapToInt(g -> g.learnt).sum();
            default -> a.witnesses.stream().mapToInt(w -> w.given).sum();
        };
    }

    int top(int glass) {
        if (glass < 0 || glass >= now.glasses.size()) {
            return NONE;
        }
        All a = now.copy();
        for (int i = 1; i <= 60; i++) {
            minute(a, false);
            if (a.glasses.get(glass).off > now.glasses.get(glass).off) {
                return i;
            }
        }
        return NONE;
    }

    int hottest(int glass, int what) {
        if (glass < 0 || glass >= now.glasses.size() || now.glasses.get(glass).under == NONE || what < 0 || what > 1) {
            return NONE;
        }
        int best = 0;
        for (int t = 1; t < 16; t++) {
            if (tells(now, glass, "warms", t) > tells(now, glass, "warms", best)) {
                best = t;
            }
        }
        return what == 0 ? best : tells(now, glass, "warms", best);
    }

    // ---- thought

    private int add(String row, int most, boolean can, int... v) {
        List<int[]> list = now.told.computeIfAbsent(row, r -> new ArrayList<>());
        if (v[0] == NONE) {
            list.clear();
            return 0;
        }
        if (!can || list.size() == most) {
            return NONE;
        }
        list.add(v);
        return list.size();
    }

    private List<int[]> row(String row) {
        return now.told.getOrDefault(row, List.of());
    }

    private static boolean in(int v, int low, int high) {
        return low <= v && v <= high;
    }

    int warmth(int t, int n) {
        return add("warmth", 8, in(t, 0, 15) && in(n, 0, 10), t, n);
    }

    int fits(int k, int what) {
        if (!in(k, 1, 3) || !in(what, 0, 1)) {
            return NONE;
        }
        int count = 0;
        int first = NONE;
        for (int set = 65535; set > 0; set--) {
            if (Integer.bitCount(set) == k && fit(set)) {
                count++;
                first = set;
            }
        }
        return what == 0 ? count : first;
    }

    private static Set<Integer> asSet(int bits) {
        Set<Integer> set = new TreeSet<>();
        for (int t = 0; t < 16; t++) {
            if ((bits >> t) % 2 == 1) {
                set.add(t);
            }
        }
        return set;
    }

    private boolean fit(int set) {
        Set<Integer> kept = asSet(set);
        return row("warmth").stream().allMatch(w -> nearness(now, kept, w[0]) == w[1]);
    }

    int words(int topics, int what) {
        if (!in(topics, 0, 65535) || Integer.bitCount(topics) > 8 || !in(what, 0, 1) || topics == 0) {
            return NONE;
        }
        Map<Integer, int[]> known = new HashMap<>();
        return fewest(topics, known)[what];
    }

    private int[] fewest(int left, Map<Integer, int[]> known) {
        if (Integer.bitCount(left) == 1) {
            return new int[] {0, NONE};
        }
        if (known.containsKey(left)) {
            return known.get(left);
        }
        int[] best = {99, NONE};
        for (int t = 0; t < 16; t++) {
            Map<Integer, Integer> shown = new HashMap<>();
            for (int kept : asSet(left)) {
                shown.merge(nearness(now, Set.of(kept), t), 1 << kept, Integer::sum);
            }
            if (shown.size() > 1) {
                int worst = 0;
                for (int part : shown.values()) {
                    worst = Math.max(worst, fewest(part, known)[0]);
                }
                if (worst + 1 < best[0]) {
                    best = new int[] {worst + 1, t};
                }
            }
        }
        known.put(left, best);
        return best;
    }

    int world(int weight, int bits) {
        return add("world", 6, in(weight, 1, 9) && in(bits, 0, 255), weight, bits);
    }

    int sure(int i, int is, int what) {
        List<int[]> worlds = row("world");
        int s = Math.floorDiv(is, 256);
        int read = Math.floorMod(is, 256);
        if (!in(i, 0, worlds.size() - 1) || !in(s, 2, 8) || !in(what, 0, 1)) {
            return NONE;
        }
        java.math.BigInteger sum = java.math.BigInteger.ZERO;
        java.math.BigInteger one = sum;
        for (int j = 0; j < worlds.size(); j++) {
            java.math.BigInteger v = java.math.BigInteger.valueOf(worlds.get(j)[0]);
            for (int bit = 1; bit < 256; bit *= 2) {
                if ((worlds.get(j)[1] & bit) == (read & bit)) {
                    v = v.multiply(java.math.BigInteger.valueOf(s - 1));
                }
            }
            sum = sum.add(v);
            one = j == i ? v : one;
        }
        return (what == 0 ? one : sum).divide(one.gcd(sum)).intValueExact();
    }

    int point(int x, int y) {
        return add("point", 4, in(x, 0, 9) && in(y, -99, 99), x, y);
    }

    int term() {
        List<int[]> points = row("point");
        List<Integer> goal = points.stream().map(p -> p[1]).toList();
        List<Set<List<Integer>>> by = new ArrayList<>();
        by.add(Set.of());
        Set<List<Integer>> units = new HashSet<>();
        units.add(points.stream().map(p -> p[0]).toList());
        for (int c = 1; c <= 9; c++) {
            int unit = c;
            units.add(points.stream().map(p -> unit).toList());
        }
        by.add(units);
        for (int n = 1; n <= 3; n++) {
            if (n > 1) {
                by.add(joins(by, n));
            }
            if (by.get(n).contains(goal)) {
                return n;
            }
        }
        return NONE;
    }

    private static Set<List<Integer>> joins(List<Set<List<Integer>>> by, int n) {
        Set<List<Integer>> all = new HashSet<>();
        for (int left = 1; left < n; left++) {
            for (List<Integer> a : by.get(left)) {
                for (List<Integer> b : by.get(n - left)) {
                    List<Integer> plus = new ArrayList<>();
                    List<Integer> less = new ArrayList<>();
                    List<Integer> times = new ArrayList<>();
                    for (int i = 0; i < a.size(); i++) {
                        plus.add(a.get(i) + b.get(i));
                        less.add(a.get(i) - b.get(i));
                        times.add(a.get(i) * b.get(i));
                    }
                    all.add(plus);
                    all.add(less);
                    all.add(times);
                }
            }
        }
        return all;
    }

    int saying(int how, int v) {
        return add("saying", 6, in(how, 0, 3) && (how > 1 || in(v, 1, 50)), how, v);
    }

    int cool(int h, int g) {
        if (!in(h, 0, 99) || !in(g, 0, 99)) {
            return NONE;
        }
        Set<Integer> reached = new TreeSet<>(Set.of(h));
        for (int n = 0; n < 100; n++) {
            if (reached.contains(g)) {
                return n;
            }
            Set<Integer> next = new TreeSet<>(reached);
            for (int v : reached) {
                for (int[] s : row("saying")) {
                    int then = s[0] == 0 ? v - s[1] : s[0] == 1 ? v + s[1] : s[0] == 2 ? v / 2 : v * 2;
                    if (in(then, 0, 99)) {
                        next.add(then);
                    }
                }
            }
            reached = next;
        }
        return NONE;
    }

    int coal(int v) {
        return add("coal", 4, in(v, 1, 40), v);
    }

    private final Map<List<Integer>, Boolean> wins = new HashMap<>();

    /** The game itself, played out; only for small heaps. */
    private boolean wins(List<Integer> heaps) {
        List<Integer> sorted = heaps.stream().filter(h -> h > 2).sorted().toList();
        Boolean is = wins.get(sorted);
        if (is == null) {
            is = false;
            for (int i = 0; i < sorted.size() && !is; i++) {
                for (int v = 1; 2 * v < sorted.get(i) && !is; v++) {
                    is = !wins(parted(sorted, i, v));
                }
            }
            wins.put(sorted, is);
        }
        return is;
    }

    private static List<Integer> parted(List<Integer> heaps, int i, int v) {
        List<Integer> then = new ArrayList<>(heaps);
        then.set(i, heaps.get(i) - v);
        then.add(v);
        return then;
    }

    int coals(int what) {
        if (!in(what, 0, 1)) {
            return NONE;
        }
        List<Integer> heaps = row("coal").stream().map(h -> h[0]).toList();
        for (int i = 0; i < heaps.size(); i++) {
            for (int v = 1; 2 * v < heaps.get(i); v++) {
                if (!wins(parted(heaps, i, v))) {
                    return what == 0 ? i : v;
                }
            }
        }
        return NONE;
    }

    int shown(int set) {
        return add("shown", 8, in(set, 0, 65535), set);
    }

    int show(int set, int what) {
        Map<Integer, Integer> few = new HashMap<>(Map.of(0, 0));
        for (int[] s : row("shown")) {
            Map<Integer, Integer> more = new HashMap<>(few);
            few.forEach((k, v) -> more.merge(k ^ s[0], v + 1, Math::min));
            few = more;
        }
        if (what == 0) {
            return Integer.numberOfTrailingZeros(few.size());
        }
        if (!in(set, 0, 65535) || !in(what, 1, 2)) {
            return NONE;
        }
        return what == 1 ? few.containsKey(set) ? 1 : 0 : few.getOrDefault(set, NONE);
    }

    boolean cost(int d, int v) {
        if (!in(d, 0, 7) || !in(v, 0, 99)) {
            return false;
        }
        now.costs[d] = v;
        return true;
    }

    /** Forward by days and ages of the glass; the first glass's days are carried along. */
    int change(int n, int p, int what) {
        if (!in(n, 1, 40) || !in(p, 0, 99) || !in(what, 0, 1)) {
            return NONE;
        }
        int best = Integer.MAX_VALUE;
        int days = 0;
        for (int first = 1; first <= Math.min(8, n); first++) {
            int cost = p;
            for (int d = 0; d < first; d++) {
                cost += now.costs[d];
            }
            cost += rest(n - first, p);
            if (cost < best) {
                best = cost;
                days = first;
            }
        }
        return what == 0 ? best : days;
    }

    private int rest(int n, int p) {
        int[] age = new int[9];
        Arrays.fill(age, 1000000);
        int fresh = 0;
        for (int day = 0; day < n; day++) {
            int[] next = new int[9];
            Arrays.fill(next, 1000000);
            next[1] = fresh + p + now.costs[0];
            for (int a = 1; a < 8; a++) {
                next[a + 1] = age[a] + now.costs[a];
            }
            age = next;
            fresh = Arrays.stream(age).min().getAsInt();
        }
        return fresh;
    }

    private final Map<Integer, Integer> prices = new HashMap<>();

    private int price(int low, int high) {
        if (low >= high) {
            return 0;
        }
        Integer is = prices.get(low * 100 + high);
        if (is == null) {
            is = Integer.MAX_VALUE;
            for (int v = low; v <= high; v++) {
                is = Math.min(is, v + Math.max(price(low, v - 1), price(v + 1, high)));
            }
            prices.put(low * 100 + high, is);
        }
        return is;
    }

    int dear(int n, int what) {
        if (!in(n, 1, 40) || !in(what, 0, 1)) {
            return NONE;
        }
        for (int v = 1; what == 1 && n > 1; v++) {
            if (v + Math.max(price(1, v - 1), price(v + 1, n)) == price(1, n)) {
                return v;
            }
        }
        return what == 0 ? price(1, n) : NONE;
    }

    int reading(int v) {
        return add("reading", 24, in(v, 0, 99), v);
    }

    int steady(int d, int what) {
        if (!in(d, 0, 99) || !in(what, 0, 1)) {
            return NONE;
        }
        List<Integer> all = row("reading").stream().map(r -> r[0]).toList();
        for (int length = all.size(); length > 0; length--) {
            for (int i = 0; i + length <= all.size(); i++) {
                TreeSet<Integer> run = new TreeSet<>(all.subList(i, i + length));
                if (run.last() - run.first() <= d) {
                    return what == 0 ? length : i;
                }
            }
        }
        return what == 0 ? 0 : NONE;
    }

    int quiet(int n, int k) {
        if (!in(n, 0, 60) || !in(k, 1, 5)) {
            return NONE;
        }
        long[] ways = new long[61];
        for (int m = 0; m <= n; m++) {
            ways[m] = m < k ? 1L << m : 0;
            for (int i = 1; m >= k && i <= k; i++) {
                ways[m] = (ways[m] + ways[m - i]) % 1000000007;
            }
        }
        return (int) ways[n];
    }

    int dog(int name) {
        return add("dog", 8, in(name, 1, 9999), name);
    }

    int dogs(int what) {
        List<String> names = row("dog").stream().map(d -> "" + d[0]).toList();
        Set<String> heads = new HashSet<>();
        names.forEach(s -> {
            for (int n = 1; n <= s.length(); n++) {
                heads.add(s.substring(0, n));
            }
        });
        if (what == 1) {
            return heads.size();
        }
        if (what != 0) {
            return NONE;
        }
        for (int n = 0; n <= 5; n++) {
            int letters = n;
            long unlike = names.stream().map(s -> (s + ".....").substring(0, letters)).distinct().count();
            if (unlike == names.size() || names.size() < 2) {
                return n;
            }
        }
        return NONE;
    }

    int juror(int weight) {
        return add("juror", 8, in(weight, 1, 20), weight);
    }

    int jury(int q, int i) {
        List<int[]> jurors = row("juror");
        if (!in(q, 1, 160) || !in(i, -1, jurors.size() - 1)) {
            return NONE;
        }
        int turns = 0;
        TreeSet<Integer> enough = new TreeSet<>((a, b) -> Integer.bitCount(a) != Integer.bitCount(b)
            ? Integer.bitCount(a) - Integer.bitCount(b) : a - b);
        for (int set = 0; set < 1 << jurors.size(); set++) {
            int sum = 0;
            for (int j : asSet(set)) {
                sum += jurors.get(j)[0];
            }
            if (sum >= q) {
                enough.add(set);
            }
            if (i >= 0 && !asSet(set).contains(i) && sum < q && sum + jurors.get(i)[0] >= q) {
                turns++;
            }
        }
        return i >= 0 ? turns : enough.isEmpty() ? NONE : enough.first();
    }

    // ---- undo and the image

    boolean undo() {
        if (pasts.isEmpty()) {
            return false;
        }
        All then = pasts.removeLast();
        then.law = now.law;
        then.near = now.near;
        then.nearLines = now.nearLines;
        then.told = now.told;
        then.costs = now.costs;
        now = then;
        return true;
    }

    boolean image(boolean taken) {
        if (taken) {
            image = now.copy();
        } else if (image != null) {
            now = image.copy();
            pasts.clear();
        }
        return image != null;
    }

    int look(int what) {
        int have = 0;
        for (Glass g : now.glasses) {
            have |= g.under == NONE ? 0 : 1 << g.under;
        }
        int[] all = {now.glasses.size(), now.witnesses.size(), now.time, have, now.book.size(), now.state, now.law.size(),
            now.walk.size(), now.nearLines, now.keepsLines, pasts.size()};
        return in(what, 0, 10) ? all[what] : NONE;
    }
}
