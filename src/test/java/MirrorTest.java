import java.util.Random;

/** Long runs of calls by chance (always the same ones), each answered by the class and by the mirror. */
public final class MirrorTest {
    private static final int RUNS = 400;
    /** A step makes some twenty calls at most, and what an object answers behind its 512th is free. */
    private static final int CALLS = 480;
    private final Due due;
    private final Random random;
    private final TongueGlass x = new TongueGlass();
    private final Mirror m = new Mirror();
    private final int run;
    private int calls;

    private MirrorTest(Due due, int run) {
        this.due = due;
        this.run = run;
        this.random = new Random(run);
    }

    public static void main(String[] args) {
        Due due = new Due();
        for (int run = 0; run < RUNS; run++) {
            new MirrorTest(due, run).go();
        }
        due.tell();
    }

    private void go() {
        for (int i = 0; i < 3 && run % 8 != 0; i++) {
            same("glass", x.glass(i), m.glass(i));
            same("witness", x.witness(i), m.witness(i));
        }
        for (int i = 0; i < 166 && run % 16 == 5; i++) {
            same("minutes(60) on the way to 9999", x.minutes(60), m.minutes(60));
        }
        while (calls < CALLS) {
            step();
        }
    }

    private void same(String call, int got, int want) {
        calls++;
        due.is("run " + run + ", call " + calls + ": " + call, got, want);
    }

    private void same(String call, boolean got, boolean want) {
        same(call, got ? 1 : 0, want ? 1 : 0);
    }

    /** Mostly within the bounds, at times at or beyond them. */
    private int within(int low, int high) {
        int odd = random.nextInt(40);
        if (odd == 0) {
            return low - 1;
        }
        if (odd == 1) {
            return high + 1;
        }
        if (odd == 2) {
            return random.nextInt();
        }
        return low + random.nextInt(high - low + 1);
    }

    private void step() {
        int kind = random.nextInt(100);
        if (kind < 30) {
            happen();
        } else if (kind < 45) {
            text();
        } else if (kind < 65) {
            ask();
        } else if (kind < 80) {
            tell();
        } else {
            think();
        }
    }

    private void happen() {
        int a = within(0, 4);
        int b = within(0, 3);
        int c = within(0, 5);
        switch (random.nextInt(14)) {
            case 0, 1, 2, 3 -> same("act(" + a + ", " + b + ", " + c + ")", x.act(a, b, c), m.act(a, b, c));
            case 4, 5 -> same("act(2, " + b + ", " + c + ")", x.act(2, b, c), m.act(2, b, c));
            case 6 -> same("act(0, " + b + ", " + c + ")", x.act(0, b, c), m.act(0, b, c));
            case 7, 8 -> same("minutes(" + c + ")", x.minutes(c), m.minutes(c));
            case 9 -> {
                int n = within(1, 60);
                same("minutes(" + n + ")", x.minutes(n), m.minutes(n));
            }
            case 10, 11 -> same("undo()", x.undo(), m.undo());
            case 12 -> {
                boolean taken = random.nextInt(4) == 0;
                same("image(" + taken + ")", x.image(taken), m.image(taken));
            }
            default -> rarely();
        }
    }

    private void rarely() {
        int v = random.nextInt();
        int what = within(0, 2);
        int who = within(0, 2);
        int to = what == 1 ? within(300, 420) : within(0, 99);
        switch (random.nextInt(5)) {
            case 0 -> same("state(" + v + ")", x.state(v), m.state(v));
            case 1 -> same("glass", x.glass(to), m.glass(to));
            case 2 -> same("witness", x.witness(who), m.witness(who));
            default -> same("set(" + what + ", " + who + ", " + to + ")", x.set(what, who, to), m.set(what, who, to));
        }
    }

    private void text() {
        int k = random.nextInt(4);
        StringBuilder text = new StringBuilder();
        int lines = random.nextInt(12) == 0 ? 17 : random.nextInt(6);
        for (int i = 0; i < lines; i++) {
            text.append(line(k));
        }
        for (int i = random.nextInt(12) - 9; i > 0 && text.length() > 0; i--) {
            spoil(text);
        }
        if (text.length() > 400) {
            text.setLength(400);
        }
        feed(text.toString());
        int as = random.nextInt(30) == 0 ? within(-1, 4) : k;
        same("text(" + as + ") of " + text, x.text(as), m.text(as));
        same("fault(0) of " + text, x.fault(0), m.fault(0));
        same("fault(1) of " + text, x.fault(1), m.fault(1));
    }

    private void feed(String text) {
        int length = 0;
        for (int at = 0; at < text.length(); at += 20) {
            int[] v = new int[5];
            for (int i = 0; i < 20; i++) {
                v[i / 4] = v[i / 4] << 8 | (at + i < text.length() ? text.charAt(at + i) : 65);
            }
            length = m.feed(v[0], v[1], v[2], v[3], v[4]);
            same("feed", x.feed(v[0], v[1], v[2], v[3], v[4]), length);
        }
        if (random.nextInt(50) != 0) {
            same("end", x.end(text.length()), m.end(text.length()));
        }
    }

    private void spoil(StringBuilder text) {
        int at = random.nextInt(text.length());
        String signs = "  \n;+-*/()<=>0179azN.\t!" + (char) 200;
        switch (random.nextInt(4)) {
            case 0 -> text.deleteCharAt(at);
            case 1 -> text.setCharAt(at, signs.charAt(random.nextInt(signs.length())));
            case 2 -> text.insert(at, signs.charAt(random.nextInt(signs.length())));
            default -> text.setLength(at);
        }
    }

    private String line(int k) {
        int t = random.nextInt(60) == 0 ? 16 : random.nextInt(8);
        int s = random.nextInt(8);
        int g = random.nextInt(30) == 0 ? 7 : random.nextInt(3);
        int w = random.nextInt(30) == 0 ? 12 : random.nextInt(3);
        return switch (k) {
            case 0 -> law();
            case 1 -> "at " + (m.look(2) + random.nextInt(9)) + " glass " + g + " " + deed(t, w) + ";";
            case 2 -> "topic " + t + " near " + (s == t && random.nextInt(9) > 0 ? (t + 1) % 8 : s) + " " + within(1, 9) % 12 + ";";
            default -> "witness " + w + " keeps" + kept() + ";";
        };
    }

    private String deed(int t, int w) {
        return switch (random.nextInt(8)) {
            case 0 -> "quiet";
            case 1 -> "shake";
            case 2 -> "wipe";
            case 3 -> "under " + w;
            case 4 -> "out";
            default -> "say " + t;
        };
    }

    private String kept() {
        StringBuilder all = new StringBuilder();
        int start = random.nextInt(8);
        int many = 1 + random.nextInt(random.nextInt(10) == 0 ? 8 : 3);
        for (int i = 0; i < many; i++) {
            all.append(' ').append(random.nextInt(20) == 0 ? start : start + i);
        }
        return all.toString();
    }

    private String law() {
        String[] words = {"warms", "slips", "cools"};
        String line = words[random.nextInt(3)] + " " + sum();
        if (random.nextInt(2) == 0) {
            line += " when " + condition(random.nextInt(12) == 0 ? 9 : 2);
        }
        return line + ";";
    }

    private String sum() {
        StringBuilder e = new StringBuilder(unit());
        for (int i = random.nextInt(4); i > 0; i--) {
            int sign = random.nextInt(4);
            e.append("+-*/".charAt(sign)).append(sign == 3 ? "" + random.nextInt(12) : unit());
        }
        return e.toString();
    }

    private String unit() {
        String[] names = {"near", "cold", "reads", "learnt", "said", "keeps", "called", "off", "glass", "time"};
        return switch (random.nextInt(6)) {
            case 0, 1, 2 -> names[random.nextInt(10)];
            case 3 -> "" + random.nextInt(10000);
            default -> "" + random.nextInt(60);
        };
    }

    private String condition(int depth) {
        int kind = depth > 0 ? random.nextInt(depth > 2 ? 3 : 6) : 5;
        return switch (kind) {
            case 0 -> "not " + condition(depth - 1);
            case 1 -> "(" + condition(depth - 1) + ")";
            case 2 -> condition(depth > 2 ? 1 : depth - 1) + (random.nextInt(2) == 0 ? " or " : " and ") + condition(depth - 1);
            default -> sum() + "<=>".charAt(random.nextInt(3)) + sum();
        };
    }

    private void ask() {
        int a = within(0, 5);
        int b = within(0, 8);
        int n = within(1, 60);
        int w = within(0, 25);
        int i = within(0, 149);
        switch (random.nextInt(12)) {
            case 0, 1, 2 -> same("of(" + a + ", " + b + ")", x.of(a, b), m.of(a, b));
            case 3, 4 -> same("who(" + a + ", " + w + ")", x.who(a, w), m.who(a, w));
            case 5 -> same("near(" + a + ", " + b + ")", x.near(a, b), m.near(a, b));
            case 6 -> same("book(" + i + ", " + a + ")", x.book(i, a), m.book(i, a));
            case 7 -> same("goes(" + n + ", " + a + ")", x.goes(n, a), m.goes(n, a));
            case 8 -> same("top(" + a + ")", x.top(a), m.top(a));
            case 9 -> same("hottest(" + a + ", " + b % 3 + ")", x.hottest(a, b % 3), m.hottest(a, b % 3));
            case 10 -> {
                for (int line = Math.max(0, m.look(4) - 3); line <= m.look(4); line++) {
                    int what = random.nextInt(4);
                    same("book(" + line + ", " + what + ")", x.book(line, what), m.book(line, what));
                }
            }
            default -> {
                int what = within(0, 10);
                same("look(" + what + ")", x.look(what), m.look(what));
            }
        }
    }

    private void tell() {
        boolean clear = random.nextInt(12) == 0;
        int a = clear ? -1 : within(0, 9);
        int b = within(0, 10);
        int bits = within(0, 255);
        int y = within(-99, 99);
        int v = within(1, 50);
        int coals = clear ? -1 : within(1, 12);
        int few = clear ? -1 : within(0, 15);
        int set = clear ? -1 : within(0, 65535);
        int dog = clear ? -1 : random.nextInt(2) == 0 ? within(1, 9999) : within(1, 130);
        int heat = clear ? -1 : within(0, 99);
        int weight = clear ? -1 : within(1, 20);
        switch (random.nextInt(11)) {
            case 0 -> same("warmth(" + a + ", " + b + ")", x.warmth(a, b), m.warmth(a, b));
            case 1 -> same("world(" + a + ", " + bits + ")", x.world(a, bits), m.world(a, bits));
            case 2 -> same("point(" + a + ", " + y + ")", x.point(a, y), m.point(a, y));
            case 3 -> same("point(" + a + ", " + b + ")", x.point(a, b), m.point(a, b));
            case 4 -> same("saying(" + a % 4 + ", " + v + ")", x.saying(a % 4, v), m.saying(a % 4, v));
            case 5 -> same("coal(" + coals + ")", x.coal(coals), m.coal(coals));
            case 6 -> same("shown(" + few + ")", x.shown(few), m.shown(few));
            case 7 -> same("shown(" + set + ")", x.shown(set), m.shown(set));
            case 8 -> same("cost(" + b + ", " + heat + ")", x.cost(b, heat), m.cost(b, heat));
            case 9 -> same("dog(" + dog + ")", x.dog(dog), m.dog(dog));
            default -> {
                same("reading(" + heat + ")", x.reading(heat), m.reading(heat));
                same("juror(" + weight + ")", x.juror(weight), m.juror(weight));
            }
        }
    }

    private void think() {
        int what = within(0, 1);
        int k = within(1, 3);
        int topics = random.nextInt(256);
        int i = within(0, 5);
        int is = within(512, 2303);
        int h = within(0, 99);
        int g = within(0, 99);
        int few = within(0, 15);
        int n = within(1, 40);
        int q = within(1, 160);
        switch (random.nextInt(14)) {
            case 0 -> same("fits(" + k + ", " + what + ")", x.fits(k, what), m.fits(k, what));
            case 1 -> same("words(" + topics + ", " + what + ")", x.words(topics, what), m.words(topics, what));
            case 2 -> same("sure(" + i + ", " + is + ", " + what + ")", x.sure(i, is, what), m.sure(i, is, what));
            case 3 -> same("term()", x.term(), m.term());
            case 4 -> same("cool(" + h + ", " + g + ")", x.cool(h, g), m.cool(h, g));
            case 5 -> same("coals(" + what + ")", x.coals(what), m.coals(what));
            case 6 -> same("show(" + few + ", " + i + ")", x.show(few, i), m.show(few, i));
            case 7 -> same("show(" + topics + ", " + k + ")", x.show(topics, k), m.show(topics, k));
            case 8 -> same("change(" + n + ", " + g + ", " + what + ")", x.change(n, g, what), m.change(n, g, what));
            case 9 -> same("dear(" + n + ", " + what + ")", x.dear(n, what), m.dear(n, what));
            case 10 -> same("steady(" + h + ", " + what + ")", x.steady(h, what), m.steady(h, what));
            case 11 -> same("quiet(" + n + ", " + i + ")", x.quiet(n, i), m.quiet(n, i));
            case 12 -> same("dogs(" + what + ")", x.dogs(what), m.dogs(what));
            default -> {
                int j = within(-1, 7);
                same("jury(" + q + ", " + j + ")", x.jury(q, j), m.jury(q, j));
                same("jury(" + few + ", " + j + ")", x.jury(few, j), m.jury(few, j));
            }
        }
    }
}
