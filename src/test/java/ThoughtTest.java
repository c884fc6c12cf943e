/** Promises 19 to 41: what is only thought. */
public final class ThoughtTest {
    private static final Due due = new Due();

    public static void main(String[] args) {
        fits();
        words();
        sure();
        term();
        cool();
        coals();
        show();
        change();
        dear();
        steady();
        quiet();
        dogs();
        jury();
        wrongAsks();
        due.tell();
    }

    private static void fits() {
        TongueGlass x = new TongueGlass();
        Due.text(x, 2, "topic 1 near 2 5;topic 1 near 3 7;topic 4 near 5 9;");
        due.is("warmth(1, 5)", x.warmth(1, 5), 1);
        due.is("one TOPIC with 5 to 1", x.fits(1, 0), 1);
        due.is("it is 2", x.fits(1, 1), 4);
        due.is("2 and any but 1 and 3", x.fits(2, 0), 13);
        due.is("the least", x.fits(2, 1), 5);
        due.is("three", x.fits(3, 0), 13 * 12 / 2);
        due.is("warmth(4, 10)", x.warmth(4, 10), 2);
        due.is("fits(2, 1)", x.fits(2, 1), 4 + 16);
        due.is("fits(2, 0)", x.fits(2, 0), 1);
        due.is("fits(1, 0)", x.fits(1, 0), 0);
        due.is("fits(1, 1)", x.fits(1, 1), -1);
        due.is("warmth(4, 9): two unlike", x.warmth(4, 9), 3);
        due.is("fits(3, 0)", x.fits(3, 0), 0);
        due.is("fits(3, 1)", x.fits(3, 1), -1);
        due.is("warmth(0, 11)", x.warmth(0, 11), -1);
        due.is("warmth(0, -1)", x.warmth(0, -1), -1);
        due.is("warmth(16, 0)", x.warmth(16, 0), -1);
        due.is("warmth(-2, 0)", x.warmth(-2, 0), -1);
        for (int n = 4; n <= 8; n++) {
            due.is("warmth(0, 0)", x.warmth(0, 0), n);
        }
        due.is("the ninth", x.warmth(0, 0), -1);
        due.is("warmth(-1, 99)", x.warmth(-1, 99), 0);
        due.is("with nothing told all", x.fits(3, 0), 560);
        due.is("the least of all", x.fits(3, 1), 7);
        due.is("warmth(15, 10)", x.warmth(15, 10), 1);
        due.is("the greatest TOPIC", x.fits(1, 1), 32768);
        due.is("fits(2, 1)", x.fits(2, 1), 32769);
        for (int[] bad : new int[][] {{0, 0}, {4, 0}, {1, 2}, {1, -1}, {-1, 0}}) {
            due.is("fits(" + bad[0] + ", " + bad[1] + ")", x.fits(bad[0], bad[1]), -1);
        }
    }

    private static void words() {
        TongueGlass x = new TongueGlass();
        due.is("eight without NEAR", x.words(0xff00, 0), 7);
        due.is("the least TOPIC of them", x.words(0xff00, 1), 8);
        due.is("nine", x.words(0x1ff, 0), -1);
        due.is("nine", x.words(0x1ff, 1), -1);
        due.is("none", x.words(0, 0), -1);
        due.is("none", x.words(0, 1), -1);
        due.is("one", x.words(0x8000, 0), 0);
        due.is("one", x.words(0x8000, 1), -1);
        due.is("beyond 16 bits", x.words(0x10000, 0), -1);
        due.is("below 0", x.words(-1, 0), -1);
        due.is("below 0", x.words(Integer.MIN_VALUE, 0), -1);
        due.is("another what", x.words(3, 2), -1);
        due.is("another what", x.words(3, -1), -1);
        Due.text(x, 2, "topic 12 near 0 1;topic 12 near 1 2;topic 12 near 2 3;topic 12 near 3 4;");
        due.is("one outside the set tells all", x.words(15, 0), 1);
        due.is("which", x.words(15, 1), 12);
        due.is("all but one have no NEARNESS to it", x.words(0x7f, 0), 3);
        due.is("first: 4 and then 12 will do, too", x.words(0x7f, 1), 4);
        due.is("two, by the least", x.words(3, 0), 1);
        due.is("first", x.words(3, 1), 0);
        Due.text(x, 2, "topic 0 near 5 1;topic 1 near 5 1;topic 2 near 6 1;topic 0 near 6 1;");
        due.is("four by two halves", x.words(15, 0), 2);
        due.is("first", x.words(15, 1), 5);
    }

    private static void sure() {
        TongueGlass x = new TongueGlass();
        due.is("world(1, 0)", x.world(1, 0), 1);
        due.is("alone", x.sure(0, 2 * 256, 0), 1);
        due.is("alone", x.sure(0, 2 * 256, 1), 1);
        due.is("world(3, 255)", x.world(3, 255), 2);
        due.is("1 in 2: by the weights", x.sure(0, 2 * 256 + 77, 0), 1);
        due.is("1 in 2", x.sure(0, 2 * 256 + 77, 1), 4);
        due.is("1 in 3: 1 * 16 of 1 * 16 and 3 * 16", x.sure(1, 3 * 256 + 0x0f, 0), 3);
        due.is("in lowest terms", x.sure(1, 3 * 256 + 0x0f, 1), 4);
        due.is("1 in 8: 7^8", x.sure(0, 8 * 256, 0), 5764801);
        due.is("and 3", x.sure(0, 8 * 256, 1), 5764804);
        due.is("the other", x.sure(1, 8 * 256, 0), 3);
        due.is("the other", x.sure(1, 8 * 256, 1), 5764804);
        due.is("world 2", x.sure(2, 512, 0), -1);
        due.is("world -1", x.sure(-1, 512, 0), -1);
        due.is("s 1", x.sure(0, 511, 0), -1);
        due.is("s 9", x.sure(0, 9 * 256, 0), -1);
        due.is("below 0", x.sure(0, -512, 0), -1);
        due.is("another what", x.sure(0, 512, 2), -1);
        for (int[] bad : new int[][] {{0, 0}, {10, 0}, {-2, 0}, {1, -1}, {1, 256}}) {
            due.is("world(" + bad[0] + ", " + bad[1] + ")", x.world(bad[0], bad[1]), -1);
        }
        for (int n = 3; n <= 6; n++) {
            due.is("world(9, 0)", x.world(9, 0), n);
        }
        due.is("the seventh", x.world(9, 0), -1);
        due.is("six worlds", x.sure(5, 8 * 256, 1), lowest(9L * 5764801, 37L * 5764801 + 3));
        due.is("world(-1, 999)", x.world(-1, 999), 0);
        due.is("none", x.sure(0, 512, 0), -1);
    }

    private static long lowest(long above, long below) {
        long a = above;
        long b = below;
        while (b != 0) {
            long rest = a % b;
            a = b;
            b = rest;
        }
        return below / a;
    }

    private static int termOf(int... points) {
        TongueGlass x = new TongueGlass();
        for (int i = 0; i < points.length; i += 2) {
            due.is("point", x.point(points[i], points[i + 1]), i / 2 + 1);
        }
        return x.term();
    }

    private static void term() {
        due.is("none told", termOf(), 1);
        due.is("x", termOf(3, 3, 7, 7), 1);
        due.is("9", termOf(3, 9, 7, 9), 1);
        due.is("0 is no unit: x - x", termOf(3, 0, 7, 0), 2);
        due.is("0 is x at 0", termOf(0, 0), 1);
        due.is("x * x", termOf(3, 9, 7, 49), 2);
        due.is("9 - x", termOf(3, 6, 9, 0, 0, 9), 2);
        due.is("x - 9", termOf(3, -6), 2);
        due.is("10", termOf(0, 10), 2);
        due.is("x * x + 1", termOf(1, 2, 2, 5, 3, 10, 4, 17), 3);
        due.is("5 - (x - 3), too: 8 - x", termOf(1, 7, 9, -1), 2);
        due.is("2 * (x + 3)", termOf(1, 8, 2, 10, 3, 12), 3);
        due.is("x - x * x", termOf(3, -6, 4, -12), 3);
        due.is("x - x - 9", termOf(0, -9, 1, -9), 3);
        due.is("1 - x * 9", termOf(9, -80, 1, -8), 3);
        due.is("x * x * x", termOf(2, 8, 3, 27, 4, 64), 3);
        due.is("99 is 9 * (9 + 2)", termOf(5, 99), 3);
        due.is("-99 of 0 at 0", termOf(0, -99), -1);
        due.is("1 - 9 * 9", termOf(0, -80, 9, -80), 3);
        due.is("nothing makes -81 of 0 and of 9", termOf(0, -81, 9, -81), -1);
        due.is("2 * x * x + 1", termOf(1, 3, 2, 9, 3, 19), -1);
        due.is("two unlike y", termOf(1, 3, 1, 4), -1);
        due.is("the same twice", termOf(1, 1, 1, 1), 1);
        TongueGlass x = new TongueGlass();
        for (int[] bad : new int[][] {{-2, 0}, {10, 0}, {0, 100}, {0, -100}}) {
            due.is("point(" + bad[0] + ", " + bad[1] + ")", x.point(bad[0], bad[1]), -1);
        }
        for (int n = 1; n <= 4; n++) {
            due.is("point(0, -99)", x.point(0, -99), n);
        }
        due.is("the fifth", x.point(0, 0), -1);
        due.is("point(-1, 1000)", x.point(-1, 1000), 0);
        due.is("term()", x.term(), 1);
    }

    private static void cool() {
        TongueGlass x = new TongueGlass();
        due.is("alike", x.cool(99, 99), 0);
        due.is("no saying", x.cool(0, 1), -1);
        due.is("saying(0, 7)", x.saying(0, 7), 1);
        due.is("7 less, twice", x.cool(20, 6), 2);
        due.is("it can't leave 0 .. 99", x.cool(6, 5), -1);
        due.is("saying(2, -5): v not asked", x.saying(2, -5), 2);
        due.is("halved downwards", x.cool(99, 49), 1);
        due.is("99 49 24 17 8 1", x.cool(99, 1), 5);
        due.is("saying(3, 999)", x.saying(3, 999), 3);
        due.is("doubled", x.cool(49, 98), 1);
        due.is("50 can't be doubled", x.cool(50, 100), -1);
        due.is("saying(1, 50)", x.saying(1, 50), 4);
        due.is("50 more", x.cool(49, 99), 1);
        due.is("0 is halved to 0", x.cool(0, 50), 1);
        for (int[] bad : new int[][] {{0, 0}, {0, 51}, {1, 0}, {1, 51}, {4, 1}, {-2, 1}}) {
            due.is("saying(" + bad[0] + ", " + bad[1] + ")", x.saying(bad[0], bad[1]), -1);
        }
        due.is("saying(0, 50)", x.saying(0, 50), 5);
        due.is("saying(1, 1)", x.saying(1, 1), 6);
        due.is("the seventh", x.saying(1, 1), -1);
        for (int v : new int[] {-1, 100, Integer.MIN_VALUE, Integer.MAX_VALUE}) {
            due.is("cool(" + v + ", 0)", x.cool(v, 0), -1);
            due.is("cool(0, " + v + ")", x.cool(0, v), -1);
            due.is("cool(" + v + ", " + v + ")", x.cool(v, v), -1);
        }
        due.is("saying(-1, 0)", x.saying(-1, 0), 0);
        due.is("none then", x.cool(1, 0), -1);
    }

    private static void coals() {
        TongueGlass x = new TongueGlass();
        due.is("coal(0)", x.coal(0), -1);
        due.is("coal(41)", x.coal(41), -1);
        due.is("coal(-2)", x.coal(-2), -1);
        due.is("coal(1)", x.coal(1), 1);
        due.is("1 can't be parted", x.coals(0), -1);
        due.is("coal(2)", x.coal(2), 2);
        due.is("nor 2", x.coals(1), -1);
        due.is("coal(3)", x.coal(3), 3);
        due.is("3 can", x.coals(0), 2);
        due.is("1 and 2", x.coals(1), 1);
        due.is("coal(3)", x.coal(3), 4);
        due.is("3 and 3 is lost", x.coals(0), -1);
        due.is("the fifth", x.coal(3), -1);
        due.is("coal(-1)", x.coal(-1), 0);
        due.is("coal(4)", x.coal(4), 1);
        due.is("4: 1 and 3, which he parts", x.coals(0), -1);
        x.coal(-1);
        x.coal(5);
        due.is("5: 1 and 4", x.coals(1), 1);
        due.is("coals(2)", x.coals(2), -1);
        due.is("coals(-1)", x.coals(-1), -1);
        for (int a = 1; a <= 40; a++) {
            for (int b = 1; b <= 40; b += 7) {
                TongueGlass y = new TongueGlass();
                y.coal(a);
                y.coal(b);
                heapsOfTwo(y, a, b);
            }
        }
    }

    private static final int[] NIMBERS = nimbers();

    private static int[] nimbers() {
        int[] g = new int[41];
        for (int h = 1; h <= 40; h++) {
            java.util.HashSet<Integer> seen = new java.util.HashSet<>();
            for (int a = 1; a < h; a++) {
                if (a != h - a) {
                    seen.add(g[a] ^ g[h - a]);
                }
            }
            while (seen.contains(g[h])) {
                g[h]++;
            }
        }
        return g;
    }

    private static void heapsOfTwo(TongueGlass x, int a, int b) {
        int heap = -1;
        int part = -1;
        for (int v = 1; v < b - v; v++) {
            if ((NIMBERS[v] ^ NIMBERS[b - v]) == NIMBERS[a] && heap == -1) {
                heap = 1;
                part = v;
            }
        }
        for (int v = (a - 1) / 2; v >= 1; v--) {
            if ((NIMBERS[v] ^ NIMBERS[a - v]) == NIMBERS[b]) {
                heap = 0;
                part = v;
            }
        }
        due.is("which of heaps " + a + " and " + b, x.coals(0), heap);
        due.is("how many of heaps " + a + " and " + b, x.coals(1), part);
    }

    private static void show() {
        TongueGlass x = new TongueGlass();
        due.is("shown(0)", x.shown(0), 1);
        due.is("the empty one adds nothing", x.show(-5, 0), 0);
        due.is("shown(3)", x.shown(3), 2);
        due.is("shown(6)", x.shown(6), 3);
        due.is("shown(5)", x.shown(5), 4);
        due.is("RANK", x.show(999999, 0), 2);
        due.is("5 by one", x.show(5, 2), 1);
        due.is("whether", x.show(5, 1), 1);
        due.is("1 does not", x.show(1, 1), 0);
        due.is("1 of none", x.show(1, 2), -1);
        due.is("the empty one", x.show(0, 2), 0);
        due.is("the empty one", x.show(0, 1), 1);
        due.is("shown(65535)", x.shown(65535), 5);
        due.is("shown(32768)", x.shown(32768), 6);
        due.is("RANK", x.show(0, 0), 4);
        due.is("of three", x.show(65535 ^ 32768 ^ 3, 2), 3);
        due.is("each once", x.show(32768 ^ 3 ^ 6, 2), 2);
        for (int v : new int[] {-1, 65536, Integer.MIN_VALUE, Integer.MAX_VALUE}) {
            due.is("show(" + v + ", 1)", x.show(v, 1), -1);
            due.is("show(" + v + ", 2)", x.show(v, 2), -1);
        }
        due.is("show(0, 3)", x.show(0, 3), -1);
        due.is("show(0, -1)", x.show(0, -1), -1);
        due.is("shown(65536)", x.shown(65536), -1);
        due.is("shown(-2)", x.shown(-2), -1);
        x.shown(16);
        due.is("the eighth", x.shown(32), 8);
        due.is("the ninth", x.shown(64), -1);
        due.is("RANK", x.show(0, 0), 6);
        due.is("shown(-1)", x.shown(-1), 0);
        due.is("RANK", x.show(0, 0), 0);
    }

    private static void change() {
        TongueGlass x = new TongueGlass();
        int[] costs = {1, 2, 4, 8, 16, 32, 64, 99};
        for (int d = 0; d < 8; d++) {
            due.is("cost", x.cost(d, costs[d]), true);
        }
        due.is("one day", x.change(1, 5, 0), 6);
        due.is("one day", x.change(1, 5, 1), 1);
        due.is("two days: 5 + 1 + 2", x.change(2, 5, 0), 8);
        due.is("two days", x.change(2, 5, 1), 2);
        due.is("three: 5 + 1 + 2 + 4", x.change(3, 5, 0), 12);
        due.is("three", x.change(3, 5, 1), 3);
        due.is("four: 8 + 8", x.change(4, 5, 0), 16);
        due.is("four", x.change(4, 5, 1), 2);
        due.is("five: 8 + 12", x.change(5, 5, 0), 20);
        due.is("five", x.change(5, 5, 1), 2);
        due.is("dear new ones: 8 days are the most", x.change(9, 99, 0), 2 * 99 + 31 + 15);
        due.is("the fewest first", x.change(9, 99, 1), 4);
        due.is("for nothing", x.change(40, 0, 0), 40);
        due.is("for nothing", x.change(40, 0, 1), 1);
        for (int[] bad : new int[][] {{0, 0, 0}, {41, 0, 0}, {1, -1, 0}, {1, 100, 0}, {1, 1, 2}, {1, 1, -1}}) {
            due.is("change(" + bad[0] + ", " + bad[1] + ", " + bad[2] + ")", x.change(bad[0], bad[1], bad[2]), -1);
        }
        for (int[] bad : new int[][] {{-1, 0}, {8, 0}, {0, -1}, {0, 100}}) {
            due.is("cost(" + bad[0] + ", " + bad[1] + ")", x.cost(bad[0], bad[1]), false);
        }
    }

    private static void dear() {
        TongueGlass x = new TongueGlass();
        int[][] price = new int[43][43];
        for (int n = 2; n <= 40; n++) {
            for (int low = n - 1; low >= 1; low--) {
                price[low][n] = Integer.MAX_VALUE;
                for (int v = low; v <= n; v++) {
                    int left = v > low ? price[low][v - 1] : 0;
                    int right = v < n ? price[v + 1][n] : 0;
                    price[low][n] = Math.min(price[low][n], v + Math.max(left, right));
                }
            }
        }
        for (int n = 40; n >= 1; n--) {
            due.is("dear(" + n + ", 0)", x.dear(n, 0), price[1][n]);
        }
        for (int n = 1; n <= 10; n++) {
            TongueGlass y = new TongueGlass();
            int asked = y.dear(n, 1);
            due.is("dear(" + n + ", 1)", asked, n == 1 ? -1 : leastFirst(price, n));
        }
        due.is("dear(4, 1): 1 and then 3", x.dear(4, 1), 1);
        for (int[] bad : new int[][] {{0, 0}, {41, 0}, {2, 2}, {2, -1}, {-1, 1}}) {
            due.is("dear(" + bad[0] + ", " + bad[1] + ")", x.dear(bad[0], bad[1]), -1);
        }
    }

    private static int leastFirst(int[][] price, int n) {
        for (int v = 1; v <= n; v++) {
            if (v + Math.max(price[1][v - 1], price[v + 1][n]) == price[1][n]) {
                return v;
            }
        }
        return -1;
    }

    private static void steady() {
        TongueGlass x = new TongueGlass();
        due.is("none told", x.steady(0, 0), 0);
        due.is("none told", x.steady(0, 1), -1);
        int[] told = {5, 9, 7, 20, 21, 21, 19, 40, 0, 99};
        for (int i = 0; i < told.length; i++) {
            due.is("reading", x.reading(told[i]), i + 1);
        }
        due.is("d 0", x.steady(0, 0), 2);
        due.is("d 0 from", x.steady(0, 1), 4);
        due.is("d 2", x.steady(2, 0), 4);
        due.is("d 2 from", x.steady(2, 1), 3);
        due.is("d 4", x.steady(4, 0), 4);
        due.is("d 35", x.steady(35, 0), 8);
        due.is("d 35 from", x.steady(35, 1), 0);
        due.is("d 98", x.steady(98, 0), 9);
        due.is("d 99", x.steady(99, 0), 10);
        for (int[] bad : new int[][] {{-1, 0}, {100, 0}, {1, 2}, {1, -1}}) {
            due.is("steady(" + bad[0] + ", " + bad[1] + ")", x.steady(bad[0], bad[1]), -1);
        }
        due.is("reading(100)", x.reading(100), -1);
        due.is("reading(-2)", x.reading(-2), -1);
        for (int n = 11; n <= 24; n++) {
            due.is("reading(3)", x.reading(3), n);
        }
        due.is("the 25th", x.reading(3), -1);
        due.is("a later longer one", x.steady(0, 1), 10);
        due.is("reading(-1)", x.reading(-1), 0);
        due.is("none then", x.steady(99, 1), -1);
        x.reading(8);
        x.reading(30);
        due.is("of several the first", x.steady(1, 1), 0);
    }

    private static void quiet() {
        TongueGlass x = new TongueGlass();
        for (int k = 1; k <= 5; k++) {
            for (int n = 0; n <= 12; n++) {
                int ways = 0;
                for (int loud = 0; loud < 1 << n; loud++) {
                    int run = loud;
                    for (int i = 1; i < k; i++) {
                        run &= run >> 1;
                    }
                    ways += run == 0 ? 1 : 0;
                }
                due.is("quiet(" + n + ", " + k + ")", x.quiet(n, k), ways);
            }
        }
        due.is("quiet(60, 2): modulo", x.quiet(60, 2), 4052739537881L % 1000000007L);
        java.math.BigInteger[] f = new java.math.BigInteger[66];
        for (int n = 0; n <= 60; n++) {
            f[n] = java.math.BigInteger.ZERO;
            for (int i = 1; i <= 5; i++) {
                java.math.BigInteger part = n - i >= 0 ? f[n - i] : n - i == -1 ? java.math.BigInteger.ONE : java.math.BigInteger.ZERO;
                f[n] = f[n].add(part);
            }
        }
        due.is("quiet(60, 5)", x.quiet(60, 5), f[60].mod(java.math.BigInteger.valueOf(1000000007)).intValue());
        for (int[] bad : new int[][] {{-1, 1}, {61, 1}, {1, 0}, {1, 6}}) {
            due.is("quiet(" + bad[0] + ", " + bad[1] + ")", x.quiet(bad[0], bad[1]), -1);
        }
    }

    private static int[] dogsOf(int... names) {
        TongueGlass x = new TongueGlass();
        for (int i = 0; i < names.length; i++) {
            due.is("dog", x.dog(names[i]), i + 1);
        }
        return new int[] {x.dogs(0), x.dogs(1)};
    }

    private static void dogs() {
        due.is("none told", dogsOf()[1], 0);
        due.is("one: 0", dogsOf(1234)[0], 0);
        due.is("one", dogsOf(1234)[1], 4);
        due.is("12 and 123", dogsOf(12, 123)[0], 3);
        due.is("12 and 123", dogsOf(12, 123)[1], 3);
        due.is("1 and 2", dogsOf(1, 2)[0], 1);
        due.is("1 and 1000", dogsOf(1, 1000)[0], 2);
        due.is("1 and 1000", dogsOf(1000, 1)[1], 4);
        due.is("1234 and 1235", dogsOf(1234, 1235)[0], 4);
        due.is("1234 and 1235", dogsOf(1234, 1235)[1], 5);
        due.is("123 and 1234", dogsOf(1234, 123, 9)[0], 4);
        due.is("two alike", dogsOf(7, 55, 7)[0], -1);
        due.is("two alike", dogsOf(7, 55, 7)[1], 3);
        due.is("eight unlike", dogsOf(1234, 2345, 3456, 4567, 5678, 6789, 7891, 8912)[1], 32);
        TongueGlass x = new TongueGlass();
        for (int v : new int[] {0, 10000, -2}) {
            due.is("dog(" + v + ")", x.dog(v), -1);
        }
        for (int n = 1; n <= 8; n++) {
            due.is("dog(9999)", x.dog(9999), n);
        }
        due.is("the ninth", x.dog(1), -1);
        due.is("dog(-1)", x.dog(-1), 0);
        due.is("dogs(0)", x.dogs(0), 0);
        due.is("dogs(2)", x.dogs(2), -1);
        due.is("dogs(-1)", x.dogs(-1), -1);
    }

    private static void jury() {
        TongueGlass x = new TongueGlass();
        int[] weights = {4, 3, 2, 1};
        for (int i = 0; i < 4; i++) {
            due.is("juror", x.juror(weights[i]), i + 1);
        }
        int[] turns = {5, 3, 3, 1};
        for (int i = 0; i < 4; i++) {
            due.is("jury(6, " + i + ")", x.jury(6, i), turns[i]);
        }
        due.is("6: 4 and 3, the least number", x.jury(6, -1), 3);
        due.is("4: one alone", x.jury(4, -1), 1);
        due.is("8: 4, 3 and 2", x.jury(8, -1), 7);
        due.is("5: 4 and 3 is less than 3 and 2", x.jury(5, -1), 3);
        due.is("3: one alone, the first", x.jury(3, -1), 1);
        due.is("10: all", x.jury(10, -1), 15);
        due.is("11: none", x.jury(11, -1), -1);
        due.is("11: nobody turns it", x.jury(11, 0), 0);
        for (int[] bad : new int[][] {{0, 0}, {161, 0}, {0, -1}, {161, -1}, {1, 4}, {1, -2}}) {
            due.is("jury(" + bad[0] + ", " + bad[1] + ")", x.jury(bad[0], bad[1]), -1);
        }
        due.is("juror(0)", x.juror(0), -1);
        due.is("juror(21)", x.juror(21), -1);
        due.is("juror(-2)", x.juror(-2), -1);
        for (int n = 5; n <= 8; n++) {
            due.is("juror(20)", x.juror(20), n);
        }
        due.is("the ninth", x.juror(1), -1);
        due.is("the fewest, not the least number", x.jury(20, -1), 16);
        due.is("juror(-1)", x.juror(-1), 0);
        due.is("none", x.jury(1, -1), -1);
        for (int i = 0; i < 8; i++) {
            x.juror(20);
        }
        due.is("160 is all", x.jury(160, -1), 255);
        due.is("160: each turns", x.jury(160, 7), 1);
        due.is("61: with three others", x.jury(61, 0), 35);
    }

    private static void wrongAsks() {
        TongueGlass x = new TongueGlass();
        for (int v : new int[] {Integer.MIN_VALUE, -300, 999999, Integer.MAX_VALUE}) {
            int all = x.warmth(v, 0) & x.warmth(0, v) & x.fits(v, 0) & x.fits(1, v) & x.words(v, 0) & x.words(1, v)
                & x.world(v, 0) & x.world(1, v) & x.sure(v, 512, 0) & x.sure(0, v, 0) & x.point(v, 0) & x.point(0, v)
                & x.saying(v, 1) & x.saying(0, v) & x.cool(v, 0) & x.cool(0, v) & x.coal(v) & x.coals(v) & x.shown(v)
                & x.show(0, v) & x.show(v, 1) & x.change(v, 1, 0) & x.change(1, v, 0) & x.change(1, 1, v)
                & x.dear(v, 0) & x.dear(1, v) & x.reading(v) & x.steady(v, 0) & x.steady(1, v) & x.quiet(v, 1)
                & x.quiet(1, v) & x.dog(v) & x.dogs(v) & x.juror(v) & x.jury(v, -1) & x.jury(1, v);
            due.is("all with " + v, all, -1);
            due.is("cost", x.cost(v, 0) || x.cost(0, v), false);
        }
    }
}
