import java.math.BigInteger;

/**
 * The document's sentences that name an edge of what is told and asked in thought: Terms 4 from FITS to JURY,
 * promises 19 to 41. Each sentence has a method; no object is called more than 512 times.
 */
public final class ThoughtEdgesTest {
    private static final Due due = new Due();
    private static final int LEAST_INT = Integer.MIN_VALUE;
    private static final int MOST_INT = Integer.MAX_VALUE;

    /** One of the calls that tell a row; rows of single numbers do not look at the second. */
    private interface Telling {
        int tell(TongueGlass x, int a, int b);
    }

    public static void main(String[] args) {
        rowsAreFull();
        rowsTakeTheirBounds();
        fitsWithNothingTold();
        fitsOfOneToThree();
        fitsByNear();
        fitsNoSet();
        fitsByAllEight();
        wordsOfEightAtMost();
        wordsOfOneAndNone();
        wordsWithoutNear();
        wordsByNear();
        sureOfNoneSuch();
        sureOneInTwoToEight();
        sureInLowestTerms();
        termOfNoneTold();
        termOfOneToThreeUnits();
        termInAnyWay();
        termOfUnlikePoints();
        coolAlikeOrNot();
        coolWithinTheHeat();
        coolByAllSix();
        coalsWhoCannotLoses();
        coalsUnlikeParts();
        coalsTheLeast();
        showTheEmptyOne();
        showRank();
        showEachOnce();
        showOfSixteenBits();
        costsOfEightDays();
        changeNotOlderThanEight();
        changeOfBounds();
        changeTheFewestDays();
        dearOfBounds();
        dearTheLeast();
        steadyOfNoneTold();
        steadyAtMostAbove();
        steadyOfAll24();
        quietOfBounds();
        quietModulo();
        dogsOfFewerThanTwo();
        dogsTheEndIsALetter();
        dogsBeginnings();
        juryOfBounds();
        juryTurns();
        juryTheFewest();
        due.tell();
    }

    // ---- telling

    private static void rowsAreFull() {
        full("warmth", 8, 3, 0, (x, a, b) -> x.warmth(a, b));
        full("world", 6, 3, 0, (x, a, b) -> x.world(a, b));
        full("point", 4, 3, 0, (x, a, b) -> x.point(a, b));
        full("saying", 6, 3, 1, (x, a, b) -> x.saying(a, b));
        full("coal", 4, 3, 0, (x, a, b) -> x.coal(a));
        full("shown", 8, 3, 0, (x, a, b) -> x.shown(a));
        full("reading", 24, 3, 0, (x, a, b) -> x.reading(a));
        full("dog", 8, 3, 0, (x, a, b) -> x.dog(a));
        full("juror", 8, 3, 0, (x, a, b) -> x.juror(a));
    }

    private static void full(String name, int most, int a, int b, Telling row) {
        TongueGlass x = new TongueGlass();
        due.is(name + "(NONE) with nothing told", row.tell(x, -1, b), 0);
        for (int round = 0; round < 2; round++) {
            for (int n = 1; n <= most; n++) {
                due.is(name + " as they come", row.tell(x, a, b), n);
                due.is(name + " that can't be", row.tell(x, -2, b), -1);
            }
            due.is(name + " beyond " + most, row.tell(x, a, b), -1);
            due.is(name + " beyond " + most + ", again", row.tell(x, a, b), -1);
            due.is(name + "(NONE), whatever else", row.tell(x, -1, round == 0 ? LEAST_INT : MOST_INT), 0);
        }
        due.is(name + "(NONE) again", row.tell(x, -1, b), 0);
        due.is(name + " then", row.tell(x, a, b), 1);
    }

    private static void rowsTakeTheirBounds() {
        firstNumber("warmth", 0, 15, 0, (x, a, b) -> x.warmth(a, b));
        secondNumber("warmth", 0, 10, 5, (x, a, b) -> x.warmth(a, b));
        firstNumber("world", 1, 9, 0, (x, a, b) -> x.world(a, b));
        secondNumber("world", 0, 255, 5, (x, a, b) -> x.world(a, b));
        firstNumber("point", 0, 9, 0, (x, a, b) -> x.point(a, b));
        secondNumber("point", -99, 99, 5, (x, a, b) -> x.point(a, b));
        firstNumber("saying", 0, 3, 1, (x, a, b) -> x.saying(a, b));
        secondNumber("saying, less", 1, 50, 0, (x, a, b) -> x.saying(a, b));
        secondNumber("saying, more", 1, 50, 1, (x, a, b) -> x.saying(a, b));
        firstNumber("coal", 1, 40, 0, (x, a, b) -> x.coal(a));
        firstNumber("shown", 0, 65535, 0, (x, a, b) -> x.shown(a));
        firstNumber("reading", 0, 99, 0, (x, a, b) -> x.reading(a));
        firstNumber("dog", 1, 9999, 0, (x, a, b) -> x.dog(a));
        firstNumber("juror", 1, 20, 0, (x, a, b) -> x.juror(a));
        TongueGlass x = new TongueGlass();
        int n = 0;
        for (int v : new int[] {LEAST_INT, -1, 0, 51, 100, MOST_INT}) {
            n++;
            due.is("halved, v " + v + " not asked", x.saying(n % 2 + 2, v), n);
        }
        due.is("halved by 5", x.cool(96, 3), 5);
    }

    private static void firstNumber(String name, int low, int high, int b, Telling row) {
        TongueGlass x = new TongueGlass();
        for (int a : new int[] {low - 1, low - 2, high + 1, -2, -3, LEAST_INT, MOST_INT}) {
            if (a != -1) {
                due.is(name + "(" + a + ")", row.tell(x, a, b), -1);
            }
        }
        int n = 0;
        for (int a : Due.bounds(low, high)) {
            n++;
            due.is(name + "(" + a + ")", row.tell(x, a, b), n);
        }
    }

    private static void secondNumber(String name, int low, int high, int a, Telling row) {
        TongueGlass x = new TongueGlass();
        for (int b : Due.beyond(low, high)) {
            due.is(name + "(" + a + ", " + b + ")", row.tell(x, a, b), -1);
        }
        int n = 0;
        for (int b : Due.bounds(low, high)) {
            n++;
            due.is(name + "(" + a + ", " + b + ")", row.tell(x, a, b), n);
        }
    }

    // ---- FITS

    private static void fitsWithNothingTold() {
        TongueGlass x = new TongueGlass();
        int[] all = {16, 120, 560};
        for (int k = 1; k <= 3; k++) {
            due.is("all sets of " + k, x.fits(k, 0), all[k - 1]);
            due.is("the least of " + k, x.fits(k, 1), (1 << k) - 1);
        }
        x.warmth(0, 10);
        due.is("sets of 3 with 0", x.fits(3, 0), 105);
        x.warmth(-1, 0);
        due.is("with nothing told again", x.fits(3, 0), 560);
        Due.text(x, 2, "topic 0 near 1 9;");
        due.is("whatever NEAR tells", x.fits(3, 0), 560);
    }

    private static void fitsOfOneToThree() {
        TongueGlass x = new TongueGlass();
        x.warmth(15, 10);
        for (int k : Due.beyond(1, 3)) {
            due.is("fits(" + k + ", 0)", x.fits(k, 0), -1);
            due.is("fits(" + k + ", 1)", x.fits(k, 1), -1);
        }
        for (int what : Due.beyond(0, 1)) {
            due.is("fits(1, " + what + ")", x.fits(1, what), -1);
        }
        due.is("one", x.fits(1, 1), 32768);
        due.is("two", x.fits(2, 1), 32769);
        due.is("three", x.fits(3, 1), 32771);
        due.is("how many", x.fits(1, 0), 1);
        due.is("how many", x.fits(2, 0), 15);
        due.is("how many", x.fits(3, 0), 105);
        x.warmth(14, 10);
        x.warmth(13, 10);
        due.is("the greatest of three", x.fits(3, 1), 32768 + 16384 + 8192);
        due.is("just one", x.fits(3, 0), 1);
        due.is("none of two", x.fits(2, 0), 0);
    }

    private static void fitsByNear() {
        TongueGlass x = new TongueGlass();
        Due.text(x, 2, "topic 0 near 15 9;topic 0 near 14 1;topic 1 near 0 4;");
        x.warmth(0, 9);
        due.is("9 is not 10", x.fits(1, 1), 32768);
        due.is("the greatest counts", x.fits(2, 0), 14);
        x.warmth(-1, 0);
        x.warmth(0, 1);
        due.is("1 is not 0", x.fits(1, 1), 16384);
        due.is("and not 9 or 4", x.fits(2, 0), 12);
        x.warmth(-1, 0);
        x.warmth(0, 0);
        due.is("0: all but 0, 1, 14 and 15", x.fits(1, 0), 12);
        due.is("the least", x.fits(1, 1), 4);
        x.warmth(-1, 0);
        x.warmth(0, 10);
        due.is("10: itself alone", x.fits(1, 0), 1);
        due.is("itself", x.fits(1, 1), 1);
    }

    private static void fitsNoSet() {
        TongueGlass x = new TongueGlass();
        x.warmth(3, 5);
        for (int k = 1; k <= 3; k++) {
            due.is("none of " + k, x.fits(k, 0), 0);
            due.is("NONE of " + k, x.fits(k, 1), -1);
        }
        x.warmth(-1, 0);
        x.warmth(3, 10);
        x.warmth(3, 0);
        due.is("two unlike for one TOPIC", x.fits(3, 0), 0);
        due.is("NONE", x.fits(3, 1), -1);
        x.warmth(-1, 0);
        for (int t = 0; t < 4; t++) {
            x.warmth(t, 10);
        }
        due.is("four are not three", x.fits(3, 0), 0);
    }

    private static void fitsByAllEight() {
        TongueGlass x = new TongueGlass();
        for (int t = 0; t < 8; t++) {
            x.warmth(t, 0);
            due.is("all but those below " + (t + 1), x.fits(1, 0), 15 - t);
            due.is("the least", x.fits(1, 1), 2 << t);
        }
        due.is("the ninth", x.warmth(8, 0), -1);
        due.is("does not count", x.fits(1, 1), 256);
    }

    // ---- WORDS

    private static void wordsOfEightAtMost() {
        TongueGlass x = new TongueGlass();
        due.is("eight", x.words(0xff, 0), 7);
        due.is("eight", x.words(0xff, 1), 0);
        due.is("eight of the last", x.words(0xff00, 0), 7);
        due.is("eight of the last", x.words(0xff00, 1), 8);
        for (int set : new int[] {0x1ff, 0xff80, 0xffff, 65536, 65537, -1, LEAST_INT, LEAST_INT + 1, MOST_INT, 1 << 20}) {
            due.is("words(" + set + ", 0)", x.words(set, 0), -1);
            due.is("words(" + set + ", 1)", x.words(set, 1), -1);
        }
        for (int what : Due.beyond(0, 1)) {
            due.is("words(3, " + what + ")", x.words(3, what), -1);
            due.is("words(1, " + what + ")", x.words(1, what), -1);
        }
    }

    private static void wordsOfOneAndNone() {
        TongueGlass x = new TongueGlass();
        due.is("none in it", x.words(0, 0), -1);
        due.is("none in it", x.words(0, 1), -1);
        for (int t = 0; t < 16; t++) {
            due.is("one in it", x.words(1 << t, 0), 0);
            due.is("one in it", x.words(1 << t, 1), -1);
        }
    }

    private static void wordsWithoutNear() {
        TongueGlass x = new TongueGlass();
        int set = 0;
        for (int n = 1; n <= 8; n++) {
            set |= 1 << 2 * n - 1;
            due.is(n + " without NEAR: the last need not be said", x.words(set, 0), n - 1);
            due.is("the least of them first", x.words(set, 1), n == 1 ? -1 : 1);
        }
        due.is("the last two", x.words(0xc000, 1), 14);
    }

    private static void wordsByNear() {
        TongueGlass x = new TongueGlass();
        Due.text(x, 2, "topic 15 near 0 1;topic 15 near 1 2;topic 15 near 2 3;topic 15 near 3 4;topic 15 near 4 5;"
            + "topic 15 near 5 6;topic 15 near 6 7;topic 15 near 7 8;topic 15 near 8 9;");
        due.is("the last TOPIC, not of the set, tells all", x.words(0xff, 0), 1);
        due.is("it is said first", x.words(0xff, 1), 15);
        due.is("it is of the set, 10 is not 9", x.words(0x813f, 0), 1);
        due.is("it is said first, too", x.words(0x813f, 1), 15);
        due.is("eight with it", x.words(0x807f, 0), 1);
        due.is("itself", x.words(0x807f, 1), 15);
        due.is("of several the least", x.words(0x180, 1), 7);
        due.is("one word", x.words(0x180, 0), 1);
        Due.text(x, 2, "topic 0 near 8 5;topic 0 near 9 5;topic 0 near 10 6;topic 0 near 11 6;topic 1 near 8 1;topic 1 near 10 1;");
        due.is("four by two", x.words(0xf00, 0), 2);
        due.is("of several the least", x.words(0xf00, 1), 0);
        Due.text(x, 2, "topic 0 near 8 1;topic 0 near 9 2;topic 0 near 10 3;topic 0 near 11 4;");
        due.is("the first TOPIC, not of the set, tells all", x.words(0xf00, 0), 1);
        due.is("it is said first", x.words(0xf00, 1), 0);
        due.is("behind one that is not near to it, too", x.words(0x3f00, 0), 2);
        due.is("asked again", x.words(0xf00, 0), 1);
        Due.text(x, 2, "topic 8 near 9 9;");
        due.is("9 is not 10", x.words(0x300, 0), 1);
        due.is("8 first", x.words(0x300, 1), 8);
    }

    // ---- SURE

    private static void sureOfNoneSuch() {
        TongueGlass x = new TongueGlass();
        due.is("none told", x.sure(0, 512, 0), -1);
        due.is("none told", x.sure(-1, 512, 1), -1);
        x.world(1, 0);
        x.world(9, 255);
        for (int i : Due.beyond(0, 1)) {
            due.is("sure(" + i + ", 512, 0)", x.sure(i, 512, 0), -1);
            due.is("sure(" + i + ", 512, 1)", x.sure(i, 512, 1), -1);
        }
        for (int what : Due.beyond(0, 1)) {
            due.is("sure(0, 512, " + what + ")", x.sure(0, 512, what), -1);
        }
        due.is("sure(1, 512, 0)", x.sure(1, 512, 0), 9);
        due.is("sure(1, 512, 1)", x.sure(1, 512, 1), 10);
        x.world(-1, 0);
        due.is("none then", x.sure(0, 512, 0), -1);
    }

    private static void sureOneInTwoToEight() {
        TongueGlass x = new TongueGlass();
        x.world(1, 0);
        x.world(1, 255);
        for (int is : new int[] {0, 255, 256, 511, 2304, 2559, 65536 + 512, -1, -512, LEAST_INT, LEAST_INT + 512, MOST_INT}) {
            due.is("sure(0, " + is + ", 0)", x.sure(0, is, 0), -1);
            due.is("sure(0, " + is + ", 1)", x.sure(0, is, 1), -1);
        }
        due.is("512, all as read: 1 to 1", x.sure(0, 512, 1), 2);
        due.is("767, none as read: 1 to 1", x.sure(0, 767, 1), 2);
        int[] powers = {1, 256, 6561, 65536, 390625, 1679616, 5764801};
        for (int s = 2; s <= 8; s++) {
            int power = powers[s - 2];
            due.is("all as read, s " + s, x.sure(0, 256 * s, 0), power);
            due.is("all as read, s " + s, x.sure(0, 256 * s, 1), power + 1);
            due.is("none as read, s " + s, x.sure(0, 256 * s + 255, 0), 1);
            due.is("none as read, s " + s, x.sure(0, 256 * s + 255, 1), power + 1);
            due.is("four of eight, s " + s, x.sure(1, 256 * s + 0x5a, 1), 2);
        }
        due.is("2303 is the greatest", x.sure(1, 2303, 0), 5764801);
    }

    private static void sureInLowestTerms() {
        TongueGlass x = new TongueGlass();
        x.world(9, 170);
        due.is("one alone", x.sure(0, 8 * 256 + 170, 0), 1);
        due.is("one alone", x.sure(0, 8 * 256 + 170, 1), 1);
        for (int n = 2; n <= 6; n++) {
            x.world(9, 170);
            due.is("1 of " + n, x.sure(n - 1, 8 * 256 + 170, 0), 1);
            due.is("1 of " + n, x.sure(n - 1, 8 * 256 + 170, 1), n);
        }
        x.world(-1, 0);
        x.world(1, 85);
        for (int n = 1; n <= 5; n++) {
            x.world(9, 170);
        }
        long much = 9L * 5764801;
        due.is("the greatest sum", x.sure(0, 8 * 256 + 170, 1), 5 * much + 1);
        due.is("the least chance", x.sure(0, 8 * 256 + 170, 0), 1);
        due.is("the others", x.sure(5, 8 * 256 + 170, 0), much);
        due.is("the others", x.sure(5, 8 * 256 + 170, 1), 5 * much + 1);
    }

    // ---- TERM

    private static int term(int... points) {
        TongueGlass x = new TongueGlass();
        for (int i = 0; i < points.length; i += 2) {
            due.is("point", x.point(points[i], points[i + 1]), i / 2 + 1);
        }
        return x.term();
    }

    private static void termOfNoneTold() {
        TongueGlass x = new TongueGlass();
        due.is("none told", x.term(), 1);
        x.point(0, 99);
        due.is("one told", x.term(), 3);
        x.point(-1, 0);
        due.is("none again", x.term(), 1);
    }

    private static void termOfOneToThreeUnits() {
        for (int c = 1; c <= 9; c++) {
            due.is(c + " is a unit", term(0, c, 9, c), 1);
        }
        due.is("x at its edges", term(0, 0, 9, 9), 1);
        due.is("0 is none", term(1, 0, 9, 0), 2);
        due.is("10 is none", term(1, 10, 9, 10), 2);
        due.is("-1 is none", term(1, -1, 9, -1), 2);
        due.is("18 is 9 + 9", term(0, 18, 9, 18), 2);
        due.is("81 is 9 * 9", term(0, 81, 9, 81), 2);
        due.is("-8 is 1 - 9", term(0, -8, 9, -8), 2);
        due.is("-9 is x - x - 9", term(0, -9, 9, -9), 3);
        due.is("82", term(0, 82, 9, 82), 3);
        due.is("90", term(0, 90, 9, 90), 3);
        due.is("99", term(0, 99, 9, 99), 3);
        due.is("-80", term(0, -80, 9, -80), 3);
        due.is("-81 of 0", term(0, -81), 3);
        due.is("-81 of 0 and 9", term(0, -81, 9, -81), -1);
        due.is("-82 of 0", term(0, -82), -1);
        due.is("-99 of 9", term(9, -99), -1);
        due.is("91 is 7 * (6 + 7)", term(1, 91), 3);
        due.is("97 of 1", term(1, 97), -1);
        due.is("-72", term(5, -72), 3);
        due.is("all four points count", term(1, 1, 2, 2, 3, 3, 4, 5), -1);
        due.is("all four points count", term(1, 1, 2, 4, 3, 9, 4, 16), 2);
    }

    private static void termInAnyWay() {
        due.is("x + 3", term(1, 4, 2, 5), 2);
        due.is("x - 3", term(1, -2, 2, -1), 2);
        due.is("3 - x", term(1, 2, 2, 1), 2);
        due.is("3 * x", term(1, 3, 2, 6), 2);
        due.is("x * x", term(2, 4, 5, 25), 2);
        due.is("x - x", term(2, 0, 5, 0), 2);
        due.is("x * x + 9", term(1, 10, 5, 34, 9, 90), 3);
        due.is("9 - x * x", term(1, 8, 5, -16, 9, -72), 3);
        due.is("x * x - 9", term(1, -8, 5, 16, 9, 72), 3);
        due.is("(9 - x) * x", term(1, 8, 5, 20, 9, 0), 3);
        due.is("(x - 9) * x", term(1, -8, 5, -20, 9, 0), 3);
        due.is("9 * (x + 1)", term(1, 18, 5, 54, 9, 90), 3);
        due.is("x * (5 - x)", term(1, 4, 5, 0, 9, -36), 3);
        due.is("x - (x - 3) is 3", term(1, 3, 5, 3), 1);
        due.is("0 - x, x - x - x", term(1, -1, 5, -5), 3);
        due.is("9 - x - x", term(1, 7, 5, -1, 9, -9), 3);
        due.is("x * x * x", term(0, 0, 1, 1, 4, 64, 2, 8), 3);
        due.is("9 + 9 + x", term(0, 18, 9, 27), 3);
        due.is("1 - 9 - x", term(0, -8, 9, -17), 3);
    }

    private static void termOfUnlikePoints() {
        due.is("one x with two unlike y", term(3, 5, 3, 6), -1);
        due.is("one x with two unlike y, not next to one another", term(3, 3, 4, 4, 3, 4), -1);
        due.is("one x with one y, twice", term(3, 5, 3, 5), 1);
        due.is("four times", term(9, 9, 9, 9, 9, 9, 9, 9), 1);
    }

    // ---- COOL

    private static void coolAlikeOrNot() {
        TongueGlass x = new TongueGlass();
        for (int h : Due.bounds(0, 99)) {
            due.is("alike with none told", x.cool(h, h), 0);
            due.is("unlike with none told", x.cool(h, h == 5 ? 6 : 5), -1);
        }
        for (int h : Due.beyond(0, 99)) {
            due.is("cool(" + h + ", 0)", x.cool(h, 0), -1);
            due.is("cool(99, " + h + ")", x.cool(99, h), -1);
            due.is("cool(" + h + ", " + h + ")", x.cool(h, h), -1);
        }
        x.saying(3, 0);
        x.saying(0, 3);
        due.is("100 less 3 can't be reached", x.cool(50, 97), -1);
        due.is("99 less 3 can", x.cool(99, 96), 1);
        x.saying(-1, 0);
        x.saying(1, 1);
        due.is("alike all the same", x.cool(7, 7), 0);
        due.is("from 0 to 99", x.cool(0, 99), 99);
        due.is("not back", x.cool(99, 0), -1);
        due.is("not back by one", x.cool(1, 0), -1);
        due.is("not to 100", x.cool(0, 100), -1);
    }

    private static void coolWithinTheHeat() {
        int[][] can = {{0, 1, 1, 0}, {0, 50, 50, 0}, {0, 50, 99, 49}, {1, 1, 98, 99}, {1, 50, 49, 99}, {1, 50, 0, 50},
            {2, 0, 99, 49}, {2, 0, 1, 0}, {2, 0, 98, 49}, {3, 0, 49, 98}, {3, 0, 1, 2}};
        for (int[] c : can) {
            TongueGlass x = new TongueGlass();
            x.saying(c[0], c[1]);
            due.is("saying " + c[0] + " " + c[1] + " from " + c[2] + " to " + c[3], x.cool(c[2], c[3]), 1);
        }
        for (int goal = 0; goal < 100; goal++) {
            TongueGlass x = new TongueGlass();
            x.saying(0, 50);
            due.is("49 less 50 leaves it, to " + goal, x.cool(49, goal), goal == 49 ? 0 : -1);
            x.saying(-1, 0);
            x.saying(1, 50);
            due.is("50 more 50 leaves it, to " + goal, x.cool(50, goal), goal == 50 ? 0 : -1);
            x.saying(-1, 0);
            x.saying(3, 0);
            due.is("50 doubled leaves it, to " + goal, x.cool(50, goal), goal == 50 ? 0 : -1);
            due.is("0 doubled is 0, to " + goal, x.cool(0, goal), goal == 0 ? 0 : -1);
            x.saying(-1, 0);
            x.saying(2, 0);
            due.is("0 halved is 0, to " + goal, x.cool(0, goal), goal == 0 ? 0 : -1);
        }
    }

    private static void coolByAllSix() {
        TongueGlass x = new TongueGlass();
        int[] more = {50, 25, 12, 6, 3, 1};
        int[] fewest = {1, 2, 3, 4, 5, 6};
        int heat = 0;
        for (int i = 0; i < 6; i++) {
            x.saying(1, more[i]);
            heat += more[i];
            due.is("by " + (i + 1) + " sayings", x.cool(0, heat), fewest[i]);
        }
        due.is("the seventh", x.saying(0, 1), -1);
        due.is("does not count", x.cool(1, 0), -1);
    }

    // ---- COALS

    private static int[] coals(int... heaps) {
        TongueGlass x = new TongueGlass();
        for (int h : heaps) {
            x.coal(h);
        }
        return new int[] {x.coals(0), x.coals(1)};
    }

    private static void coal(int heap, int part, int... heaps) {
        int[] got = coals(heaps);
        due.is("which of " + java.util.Arrays.toString(heaps), got[0], heap);
        due.is("how many of " + java.util.Arrays.toString(heaps), got[1], part);
    }

    private static void coalsWhoCannotLoses() {
        coal(-1, -1);
        coal(-1, -1, 1);
        coal(-1, -1, 2);
        coal(-1, -1, 1, 2, 2, 1);
        coal(0, 1, 3);
        coal(3, 1, 1, 2, 1, 3);
        TongueGlass x = new TongueGlass();
        x.coal(3);
        for (int what : Due.beyond(0, 1)) {
            due.is("coals(" + what + ")", x.coals(what), -1);
        }
        due.is("coals(0)", x.coals(0), 0);
        x.coal(-1);
        due.is("none then", x.coals(0), -1);
    }

    private static void coalsUnlikeParts() {
        coal(-1, -1, 4);
        coal(0, 1, 5);
        coal(0, 2, 6);
        coal(-1, -1, 7);
        coal(0, 1, 8);
        coal(0, 2, 9);
        coal(-1, -1, 10);
        coal(-1, -1, 40, 40);
        coal(-1, -1, 39, 40, 39, 40);
    }

    private static void coalsTheLeast() {
        coal(0, 1, 3, 3, 3);
        coal(3, 1, 1, 2, 2, 5);
        coal(-1, -1, 5, 3, 3, 5);
        coal(0, 2, 5, 3, 3, 3);
        int[] known = new int[41];
        for (int h = 1; h <= 40; h++) {
            int seen = 0;
            for (int a = 1; 2 * a < h; a++) {
                seen |= 1 << (known[a] ^ known[h - a]);
            }
            known[h] = Integer.numberOfTrailingZeros(~seen);
        }
        for (int h = 40; h >= 1; h--) {
            int part = -1;
            for (int a = (h - 1) / 2; a >= 1; a--) {
                part = known[a] == known[h - a] ? a : part;
            }
            coal(part == -1 ? -1 : 0, part, h);
        }
        int[][] many = {{3, 40, 40}, {40, 40, 3}, {40, 3, 40}, {1, 2, 40, 39}, {11, 12, 13, 14}, {40, 39, 38, 37}, {7, 10, 4, 6}};
        for (int[] heaps : many) {
            coalsBy(known, heaps);
        }
    }

    private static void coalsBy(int[] known, int[] heaps) {
        for (int i = 0; i < heaps.length; i++) {
            for (int a = 1; 2 * a < heaps[i]; a++) {
                int then = known[a] ^ known[heaps[i] - a];
                for (int j = 0; j < heaps.length; j++) {
                    then ^= j == i ? 0 : known[heaps[j]];
                }
                if (then == 0) {
                    coal(i, a, heaps);
                    return;
                }
            }
        }
        coal(-1, -1, heaps);
    }

    // ---- SHOW

    private static TongueGlass shows(int... sets) {
        TongueGlass x = new TongueGlass();
        for (int s : sets) {
            x.shown(s);
        }
        return x;
    }

    private static void showTheEmptyOne() {
        for (int[] sets : new int[][] {{}, {0}, {0, 0}, {5}, {5, 5}, {65535, 1}}) {
            TongueGlass x = shows(sets);
            due.is("the empty one always comes", x.show(0, 1), 1);
            due.is("of none", x.show(0, 2), 0);
        }
        TongueGlass x = new TongueGlass();
        due.is("of nothing comes no other", x.show(1, 1), 0);
        due.is("NONE", x.show(1, 2), -1);
        due.is("RANK of nothing", x.show(1, 0), 0);
        due.is("RANK of the empty one", shows(0, 0, 0).show(0, 0), 0);
    }

    private static void showRank() {
        due.is("alike", shows(7, 7, 7).show(0, 0), 1);
        due.is("eight unlike bits", shows(1, 2, 4, 8, 16, 32, 64, 32768).show(0, 0), 8);
        due.is("three of which one comes of two", shows(3, 6, 5).show(0, 0), 2);
        due.is("highest bit first or last", shows(32768, 49152, 16384).show(0, 0), 2);
        due.is("eight of a three", shows(1, 2, 3, 4, 5, 6, 7, 0).show(0, 0), 3);
        TongueGlass again = shows(1, 3, 65535);
        due.is("three", again.show(0, 0), 3);
        due.is("three again", again.show(0, 0), 3);
        TongueGlass x = shows(65535, 32767);
        for (int set : new int[] {LEAST_INT, -1, 0, 65535, 65536, MOST_INT}) {
            due.is("the set is not asked", x.show(set, 0), 2);
        }
    }

    private static void showEachOnce() {
        TongueGlass x = shows(1, 2, 4, 8, 16, 32, 64, 128);
        due.is("all eight", x.show(255, 2), 8);
        due.is("one", x.show(128, 2), 1);
        due.is("a bit of none", x.show(256, 2), -1);
        due.is("a bit of none", x.show(511, 1), 0);
        TongueGlass y = shows(3, 3, 5, 6);
        due.is("of two, not of three", y.show(3, 2), 1);
        due.is("two alike are nothing", y.show(3, 1), 1);
        due.is("5 and 6, or 3", y.show(6, 2), 1);
        TongueGlass z = shows(3, 12, 48, 63);
        due.is("63 by one", z.show(63, 2), 1);
        due.is("51 by two", z.show(51, 2), 2);
        due.is("63 less 12 by two, too", z.show(60, 2), 2);
    }

    private static void showOfSixteenBits() {
        TongueGlass x = shows(65535, 32768, 1, 0);
        due.is("32767", x.show(32767, 2), 2);
        due.is("32766", x.show(32766, 2), 3);
        due.is("65535", x.show(65535, 1), 1);
        for (int set : Due.beyond(0, 65535)) {
            due.is("show(" + set + ", 1)", x.show(set, 1), -1);
            due.is("show(" + set + ", 2)", x.show(set, 2), -1);
        }
        for (int what : Due.beyond(0, 2)) {
            due.is("show(1, " + what + ")", x.show(1, what), -1);
        }
    }

    // ---- CHANGE

    private static void costsOfEightDays() {
        TongueGlass x = new TongueGlass();
        for (int d = 0; d < 8; d++) {
            due.is("0 at first: " + (d + 1) + " days for a new one", x.change(d + 1, 99, 0), 99);
        }
        for (int d : Due.bounds(0, 7)) {
            for (int v : Due.bounds(0, 99)) {
                due.is("cost(" + d + ", " + v + ")", x.cost(d, v), true);
            }
        }
        for (int d : Due.beyond(0, 7)) {
            due.is("cost(" + d + ", 1)", x.cost(d, 1), false);
        }
        for (int v : Due.beyond(0, 99)) {
            due.is("cost(2, " + v + ")", x.cost(2, v), false);
        }
        due.is("the first day", x.change(1, 99, 0), 198);
        due.is("the first two", x.change(2, 99, 0), 297);
        due.is("nothing in the third", x.change(3, 99, 0), 297);
        TongueGlass y = new TongueGlass();
        y.cost(7, 98);
        due.is("the eighth: no new one", y.change(8, 99, 0), 197);
        due.is("for 8 days", y.change(8, 99, 1), 8);
        y.cost(7, 99);
        due.is("alike: the fewest", y.change(8, 99, 1), 1);
        y.cost(7, 0);
        due.is("told again", y.change(8, 99, 0), 99);
    }

    private static void changeNotOlderThanEight() {
        TongueGlass x = new TongueGlass();
        for (int n = 1; n <= 40; n++) {
            int glasses = (n + 7) / 8;
            due.is("change(" + n + ", 99, 0)", x.change(n, 99, 0), 99 * glasses);
            due.is("change(" + n + ", 99, 1)", x.change(n, 99, 1), n - 8 * (glasses - 1));
            due.is("change(" + n + ", 0, 0)", x.change(n, 0, 0), 0);
            due.is("change(" + n + ", 0, 1)", x.change(n, 0, 1), 1);
        }
    }

    private static void changeOfBounds() {
        TongueGlass x = new TongueGlass();
        for (int d = 0; d < 8; d++) {
            x.cost(d, 99);
        }
        due.is("the most", x.change(40, 99, 0), 40 * 99 + 5 * 99);
        due.is("the least", x.change(1, 0, 0), 99);
        for (int n : Due.beyond(1, 40)) {
            due.is("change(" + n + ", 1, 0)", x.change(n, 1, 0), -1);
            due.is("change(" + n + ", 1, 1)", x.change(n, 1, 1), -1);
        }
        for (int p : Due.beyond(0, 99)) {
            due.is("change(1, " + p + ", 0)", x.change(1, p, 0), -1);
            due.is("change(1, " + p + ", 1)", x.change(1, p, 1), -1);
        }
        for (int what : Due.beyond(0, 1)) {
            due.is("change(1, 1, " + what + ")", x.change(1, 1, what), -1);
        }
    }

    private static void changeTheFewestDays() {
        TongueGlass x = new TongueGlass();
        x.cost(1, 5);
        due.is("alike: a new one or 5", x.change(2, 5, 0), 10);
        due.is("the fewest", x.change(2, 5, 1), 1);
        due.is("5 is less than 6", x.change(2, 6, 1), 2);
        due.is("4 is less than 5", x.change(2, 4, 1), 1);
        due.is("three days: one and then two", x.change(3, 5, 0), 10);
        due.is("all three on end", x.change(3, 5, 1), 3);
        due.is("ten days", x.change(10, 50, 0), 105 + 5);
        due.is("ten days, the fewest", x.change(10, 50, 1), 2);
        TongueGlass y = new TongueGlass();
        for (int d = 0; d < 8; d++) {
            y.cost(d, d < 4 ? 1 : 90);
        }
        due.is("four each", y.change(8, 20, 0), 48);
        due.is("four", y.change(8, 20, 1), 4);
        due.is("seven: three or four", y.change(7, 20, 0), 47);
        due.is("the fewest", y.change(7, 20, 1), 3);
        due.is("nine", y.change(9, 20, 1), 1);
    }

    // ---- DEAR

    private static void dearOfBounds() {
        TongueGlass x = new TongueGlass();
        due.is("n 1", x.dear(1, 0), 0);
        due.is("n 1", x.dear(1, 1), -1);
        due.is("n 2", x.dear(2, 0), 1);
        due.is("n 2", x.dear(2, 1), 1);
        for (int n : Due.beyond(1, 40)) {
            due.is("dear(" + n + ", 0)", x.dear(n, 0), -1);
            due.is("dear(" + n + ", 1)", x.dear(n, 1), -1);
        }
        for (int what : Due.beyond(0, 1)) {
            due.is("dear(5, " + what + ")", x.dear(5, what), -1);
            due.is("dear(1, " + what + ")", x.dear(1, what), -1);
        }
    }

    /** The least by numbers that are found from below: a table over all parts of 1 .. 40. */
    private static void dearTheLeast() {
        int[][] t = new int[44][44];
        for (int wide = 1; wide < 40; wide++) {
            for (int low = 1; low + wide <= 40; low++) {
                int best = MOST_INT;
                for (int v = low; v <= low + wide; v++) {
                    int less = v > low ? t[low][v - 1] : 0;
                    int more = v < low + wide ? t[v + 1][low + wide] : 0;
                    best = Math.min(best, v + Math.max(less, more));
                }
                t[low][low + wide] = best;
            }
        }
        TongueGlass x = new TongueGlass();
        for (int n = 40; n >= 2; n--) {
            int first = 1;
            while (first + Math.max(t[1][first - 1], t[first + 1][n]) != t[1][n]) {
                first++;
            }
            due.is("dear(" + n + ", 1), of several the least", x.dear(n, 1), first);
            due.is("dear(" + n + ", 0)", x.dear(n, 0), t[1][n]);
        }
        TongueGlass y = new TongueGlass();
        for (int n = 1; n <= 40; n++) {
            due.is("dear(" + n + ", 0) from below", y.dear(n, 0), t[1][n]);
        }
        due.is("4: 1 and 3, or 3 and 1", x.dear(4, 1), 1);
        due.is("40 is known", t[1][40] > 0, true);
    }

    // ---- STEADY

    private static TongueGlass readings(int... all) {
        TongueGlass x = new TongueGlass();
        for (int v : all) {
            x.reading(v);
        }
        return x;
    }

    private static void steadyOfNoneTold() {
        TongueGlass x = new TongueGlass();
        for (int d : Due.bounds(0, 99)) {
            due.is("none told", x.steady(d, 0), 0);
            due.is("none told", x.steady(d, 1), -1);
        }
        x.reading(99);
        due.is("one told", x.steady(0, 0), 1);
        due.is("one told", x.steady(0, 1), 0);
        for (int d : Due.beyond(0, 99)) {
            due.is("steady(" + d + ", 0)", x.steady(d, 0), -1);
            due.is("steady(" + d + ", 1)", x.steady(d, 1), -1);
        }
        for (int what : Due.beyond(0, 1)) {
            due.is("steady(0, " + what + ")", x.steady(0, what), -1);
        }
        x.reading(-1);
        due.is("none then", x.steady(0, 0), 0);
        due.is("none then", x.steady(0, 1), -1);
    }

    private static void steadyAtMostAbove() {
        TongueGlass x = readings(0, 99, 0);
        due.is("98 is not enough", x.steady(98, 0), 1);
        due.is("the first", x.steady(98, 1), 0);
        due.is("99 is", x.steady(99, 0), 3);
        TongueGlass y = readings(50, 53, 50, 47, 50, 51, 49);
        due.is("3 at most", y.steady(3, 0), 3);
        due.is("where", y.steady(3, 1), 0);
        due.is("4 at most", y.steady(4, 0), 5);
        due.is("where", y.steady(4, 1), 2);
        due.is("0 at most", y.steady(0, 0), 1);
        due.is("the first of several", y.steady(0, 1), 0);
        due.is("2 at most", y.steady(2, 0), 3);
        due.is("where", y.steady(2, 1), 4);
        due.is("5 at most", y.steady(5, 0), 5);
        due.is("6 at most", y.steady(6, 0), 7);
        due.is("greatest above least, not the last above the first", readings(5, 9, 5).steady(3, 0), 1);
    }

    private static void steadyOfAll24() {
        int[] alike = new int[24];
        TongueGlass x = readings(alike);
        due.is("all 24", x.steady(0, 0), 24);
        due.is("from 0", x.steady(0, 1), 0);
        due.is("the 25th", x.reading(0), -1);
        due.is("does not count", x.steady(0, 0), 24);
        int[] late = new int[24];
        for (int i = 0; i < 24; i++) {
            late[i] = i < 22 ? 2 * i : 77;
        }
        due.is("the last two", readings(late).steady(0, 0), 2);
        due.is("from 22", readings(late).steady(0, 1), 22);
        due.is("the last alone", readings(0, 5, 5).steady(0, 1), 1);
    }

    // ---- QUIET

    private static void quietOfBounds() {
        TongueGlass x = new TongueGlass();
        for (int k = 1; k <= 5; k++) {
            due.is("n 0", x.quiet(0, k), 1);
            for (int n = 1; n < k; n++) {
                due.is("fewer than k: all ways", x.quiet(n, k), 1 << n);
            }
            due.is("k: all but one", x.quiet(k, k), (1 << k) - 1);
        }
        for (int n : new int[] {1, 30, 59, 60}) {
            due.is("k 1: all quiet", x.quiet(n, 1), 1);
        }
        for (int n : Due.beyond(0, 60)) {
            due.is("quiet(" + n + ", 3)", x.quiet(n, 3), -1);
        }
        for (int k : Due.beyond(1, 5)) {
            due.is("quiet(3, " + k + ")", x.quiet(3, k), -1);
            due.is("quiet(0, " + k + ")", x.quiet(0, k), -1);
        }
    }

    private static void quietModulo() {
        BigInteger modulus = BigInteger.valueOf(1000000007);
        for (int k = 1; k <= 5; k++) {
            BigInteger[] ways = new BigInteger[61];
            TongueGlass x = new TongueGlass();
            for (int n = 0; n <= 60; n++) {
                ways[n] = n < k ? BigInteger.TWO.pow(n) : BigInteger.ZERO;
                for (int i = 1; i <= k && n >= k; i++) {
                    ways[n] = ways[n].add(ways[n - i]);
                }
                due.is("quiet(" + n + ", " + k + ")", x.quiet(n, k), ways[n].mod(modulus).longValue());
            }
        }
    }

    // ---- DOGS

    private static void dogs(int few, int heads, int... names) {
        TongueGlass x = new TongueGlass();
        for (int v : names) {
            x.dog(v);
        }
        due.is("by how few of " + java.util.Arrays.toString(names), x.dogs(0), few);
        due.is("beginnings of " + java.util.Arrays.toString(names), x.dogs(1), heads);
    }

    private static void dogsOfFewerThanTwo() {
        dogs(0, 0);
        dogs(0, 1, 1);
        dogs(0, 4, 9999);
        TongueGlass x = new TongueGlass();
        for (int what : Due.beyond(0, 1)) {
            due.is("dogs(" + what + ")", x.dogs(what), -1);
        }
        x.dog(5);
        x.dog(-1);
        due.is("none then", x.dogs(1), 0);
    }

    private static void dogsTheEndIsALetter() {
        dogs(3, 3, 12, 123);
        dogs(2, 2, 1, 12);
        dogs(4, 4, 123, 1234);
        dogs(4, 4, 999, 9999);
        dogs(4, 4, 9, 99, 999, 9999);
        dogs(2, 4, 1, 1000);
        dogs(1, 2, 1, 2);
        dogs(2, 2, 9, 99);
        dogs(3, 3, 99, 999);
        dogs(2, 2, 10, 1);
        dogs(3, 3, 10, 100);
        dogs(4, 4, 1000, 100);
        dogs(1, 4, 99, 10);
        dogs(1, 6, 999, 100);
        dogs(1, 8, 1999, 2999);
        dogs(4, 5, 1998, 1999);
        dogs(3, 7, 1298, 1399, 13);
    }

    private static void dogsBeginnings() {
        dogs(-1, 1, 7, 7);
        dogs(-1, 5, 7, 1234, 7);
        dogs(-1, 4, 9999, 9999, 9999, 9999, 9999, 9999, 9999, 9999);
        dogs(1, 32, 1234, 2345, 3456, 4567, 5678, 6789, 7891, 8912);
        dogs(1, 8, 1, 2, 3, 4, 5, 6, 7, 8);
        dogs(4, 11, 1111, 1112, 1113, 1114, 1115, 1116, 1117, 1118);
        dogs(3, 3, 100, 10);
    }

    // ---- JURY

    private static TongueGlass jurors(int... weights) {
        TongueGlass x = new TongueGlass();
        for (int w : weights) {
            x.juror(w);
        }
        return x;
    }

    private static void juryOfBounds() {
        TongueGlass none = new TongueGlass();
        due.is("none told", none.jury(1, -1), -1);
        due.is("none told", none.jury(1, 0), -1);
        TongueGlass x = jurors(20, 20, 20, 20, 20, 20, 20, 20);
        due.is("160: all", x.jury(160, -1), 255);
        due.is("160: each turns it", x.jury(160, 7), 1);
        due.is("1: one", x.jury(1, -1), 1);
        due.is("1: with the empty set alone", x.jury(1, 0), 1);
        for (int q : Due.beyond(1, 160)) {
            due.is("jury(" + q + ", -1)", x.jury(q, -1), -1);
            due.is("jury(" + q + ", 0)", x.jury(q, 0), -1);
        }
        for (int i : new int[] {-2, -3, 8, 9, LEAST_INT, MOST_INT}) {
            due.is("jury(20, " + i + ")", x.jury(20, i), -1);
        }
        TongueGlass two = jurors(3, 4);
        due.is("jury(3, 1)", two.jury(3, 1), 1);
        due.is("jury(3, 2): not told", two.jury(3, 2), -1);
        due.is("7 is all", two.jury(7, -1), 3);
        due.is("8 is more than all", two.jury(8, -1), -1);
        due.is("8: nobody turns it", two.jury(8, 0), 0);
    }

    private static void juryTurns() {
        TongueGlass x = jurors(1, 2, 3);
        int[][] turns = {{1, 1, 1}, {1, 2, 2}, {1, 1, 3}, {1, 1, 3}, {0, 2, 2}, {1, 1, 1}, {0, 0, 0}};
        for (int q = 1; q <= 7; q++) {
            for (int i = 0; i < 3; i++) {
                int count = 0;
                for (int set = 0; set < 8; set++) {
                    int sum = (set & 1) + (set & 2) + 3 * (set >> 2);
                    if ((set >> i & 1) == 0 && sum < q && sum + i + 1 >= q) {
                        count++;
                    }
                }
                due.is("jury(" + q + ", " + i + ")", x.jury(q, i), count);
            }
        }
        due.is("3, just enough with the empty one", x.jury(3, 2), turns[2][2]);
        TongueGlass y = jurors(1, 1, 1, 1, 1, 1, 1, 1);
        due.is("the eighth of those with three others", y.jury(4, 7), 35);
        due.is("the first of those with none", y.jury(1, 0), 1);
        due.is("the first of those with seven", y.jury(8, 0), 1);
    }

    private static void juryTheFewest() {
        due.is("one that is enough alone", jurors(1, 2, 20).jury(3, -1), 4);
        due.is("of several the least", jurors(1, 5, 5, 20).jury(5, -1), 2);
        due.is("two, the least as a number", jurors(4, 1, 3, 3, 4).jury(7, -1), 5);
        due.is("fewest ahead of least", jurors(2, 2, 2, 6).jury(6, -1), 8);
        due.is("just enough", jurors(2, 3).jury(5, -1), 3);
        due.is("NONE", jurors(2, 3).jury(6, -1), -1);
        due.is("the last of eight", jurors(1, 1, 1, 1, 1, 1, 1, 20).jury(9, -1), 128);
    }
}
