/**
 * The document's sentences that name an edge of the court: draws (ahead of Terms 1), Terms 1, Terms 3, GOES,
 * TOP and HOTTEST of Terms 4, promises 1 to 7, 12 to 18. Each sentence has a method; no object is called
 * more than 512 times.
 */
public final class CourtEdgesTest {
    private static final Due due = new Due();
    private static final int LEAST_INT = Integer.MIN_VALUE;
    private static final int MOST_INT = Integer.MAX_VALUE;

    public static void main(String[] args) {
        aNewObjectIsEmpty();
        stateIsAnInt();
        drawsWrap();
        aDrawBelowSlipsSlips();
        drawsOnlyWhereSlipsIsAboveZero();
        oneDrawForEachGlassUnder();
        glassByGlass();
        learntOfAGlass();
        sixGlasses();
        coldOfAWitness();
        twelveWitnesses();
        setLearnt();
        setReads();
        setCold();
        setAnotherWhat();
        setOfNoneSuch();
        aWitnessHasOneGlassAtMost();
        actOfNoneSuch();
        actAnotherWhat();
        topicsThatAreSaid();
        shakingAtThreeHundred();
        wipingAtNothingLearnt();
        takingOutOneUnderNobody();
        minutesFromOneToSixty();
        timeUpTo9999();
        howOftenOffTheTop();
        topAbove420();
        coolsNotBelow300();
        learntUpTo99();
        learntByNearnessAlone();
        slippingDoesNothingElse();
        underNobodyNothingComes();
        saidOfAllIsNone();
        walkAtItsMinuteAlone();
        walkDoesNothingElse();
        walkWithinOneMinute();
        eachDeedAlone();
        offTheTopIsFreeInTheNextMinute();
        nearnessOfAWitness();
        whatOfAGlass();
        whatOfAWitness();
        nearOfTopics();
        bookOfNoneSuch();
        bookHowMuch();
        bookOf150Lines();
        bookFullWithinAMinute();
        goesFromOneToSixty();
        goesWithoutGlasses();
        goesThenNotNow();
        inThoughtSlipsAt500();
        nothingOfThoughtStays();
        topWithin60();
        topIsMoreThanNow();
        thoughtOfTheLast();
        thoughtGoesBeyond9999();
        topAt9999();
        hottestTheLeastOfSeveral();
        hottestOfNoneSuch();
        due.tell();
    }

    // ---- helpers

    /** A GLASS UNDER a WITNESS who keeps TOPIC 0 back; TOPIC 1 is 4 near to it. */
    private static TongueGlass tried(int reads, int learnt, String law) {
        TongueGlass x = Due.court(1, 1);
        Due.text(x, 2, "topic 0 near 1 4;");
        Due.text(x, 3, "witness 0 keeps 0;");
        Due.text(x, 0, law);
        x.set(1, 0, reads);
        x.set(0, 0, learnt);
        x.act(0, 0, 0);
        return x;
    }

    private static void later(TongueGlass x, int minutes) {
        int left = minutes;
        while (left > 0) {
            int n = Math.min(60, left);
            x.minutes(n);
            left -= n;
        }
    }

    private static void line(TongueGlass x, int i, int time, int what, int which, int much) {
        int[] want = {time, what, which, much};
        for (int k = 0; k < 4; k++) {
            due.is("book(" + i + ", " + k + ")", x.book(i, k), want[k]);
        }
    }

    // ---- promise 1

    private static void aNewObjectIsEmpty() {
        TongueGlass x = new TongueGlass();
        due.is("NONE", TongueGlass.NONE, -1);
        for (int what = 0; what <= 10; what++) {
            due.is("look(" + what + ") at first", x.look(what), 0);
        }
        for (int v : new int[] {-1, 11, LEAST_INT, MOST_INT}) {
            due.is("look of another what " + v, x.look(v), -1);
        }
        for (int a = 0; a < 16; a++) {
            for (int b = 0; b < 16; b++) {
                due.is("near at first", x.near(a, b), 0);
            }
        }
        due.is("of without GLASSES", x.of(0, 0), -2);
        due.is("who without WITNESSES", x.who(0, 0), -2);
        due.is("set without GLASSES", x.set(0, 0, 0), false);
        due.is("act without GLASSES", x.act(2, 0, 0), false);
        due.is("book without lines", x.book(0, 0), -1);
        due.is("TOP without GLASSES", x.top(0), -1);
        due.is("nothing to be undone", x.undo(), false);
        due.is("no IMAGE", x.image(false), false);
        due.is("an empty TAPE", x.end(0), true);
        due.is("an empty TAPE", x.end(1), false);
        due.is("minutes without GLASSES", x.minutes(60), 0);
    }

    // ---- draws

    private static void stateIsAnInt() {
        TongueGlass x = new TongueGlass();
        int was = 0;
        for (int v : new int[] {LEAST_INT, MOST_INT, -1, 0, 1, 7, 7}) {
            due.is("state(" + v + ")", x.state(v), was);
            due.is("look(5)", x.look(5), v);
            was = v;
        }
    }

    private static int next(int state) {
        return (int) (1664525L * state + 1013904223L);
    }

    private static int draw(int state, int m) {
        return (int) (((next(state) & 0xffffffffL) >> 8) % m);
    }

    private static int stateThatDraws(int draw, boolean highestBit) {
        int s = 0;
        while (draw(s, 1000) != draw || next(s) < 0 != highestBit) {
            s++;
        }
        return s;
    }

    private static void drawsWrap() {
        for (int s : new int[] {0, 1, -1, LEAST_INT, MOST_INT, 1290, 1291, -610, 0x7fffff00, 0x40000000}) {
            TongueGlass x = tried(300, 0, "slips 1; cools 0;");
            x.state(s);
            int state = s;
            for (int i = 0; i < 5; i++) {
                x.minutes(1);
                state = next(state);
                due.is("STATE behind draw " + i + " of " + s, x.look(5), state);
            }
        }
    }

    private static void aDrawBelowSlipsSlips() {
        for (int d : new int[] {0, 1, 255, 256, 499, 500, 998, 999}) {
            slipsAt(d, stateThatDraws(d, false));
            slipsAt(d, stateThatDraws(d, true));
        }
    }

    private static void slipsAt(int d, int state) {
        TongueGlass x = tried(333, 0, "cools 0; slips " + (d + 1) + ";");
        x.state(state);
        x.minutes(1);
        due.is("a draw " + d + " below slips, STATE " + state, x.of(0, 1), 300);
        due.is("STATE then", x.look(5), next(state));
        if (d > 0) {
            TongueGlass y = tried(333, 0, "cools 0; slips " + d + ";");
            y.state(state);
            y.minutes(1);
            due.is("a draw " + d + " not below slips, STATE " + state, y.of(0, 1), 333);
            due.is("STATE then", y.look(5), next(state));
        }
    }

    private static void drawsOnlyWhereSlipsIsAboveZero() {
        for (String law : new String[] {"", "slips 0;", "slips 0-1;", "slips 9 when time>0;"}) {
            TongueGlass x = tried(333, 0, law);
            x.state(12345);
            x.minutes(1);
            due.is("no draw by " + law, x.look(5), 12345);
            due.is("nor a slip", x.of(0, 1), 328);
        }
        TongueGlass x = tried(333, 0, "slips 1;");
        x.state(12345);
        x.minutes(1);
        due.is("a draw where slips is 1", x.look(5), next(12345));
    }

    private static void oneDrawForEachGlassUnder() {
        TongueGlass x = Due.court(3, 2);
        Due.text(x, 0, "slips 1; cools 0;");
        x.state(5);
        x.minutes(1);
        due.is("under nobody: no draw", x.look(5), 5);
        x.act(0, 0, 1);
        x.act(0, 2, 0);
        x.minutes(1);
        due.is("two are UNDER: two draws", x.look(5), next(next(5)));
        x.minutes(2);
        due.is("two MINUTES more", x.look(5), next(next(next(next(next(next(5)))))));
    }

    /** By their numbers, not by those of the WITNESSES, nor by when they came UNDER them; WALK goes ahead. */
    private static void glassByGlass() {
        int s = 0;
        while (draw(s, 1000) >= 500 || draw(next(s), 1000) < 500 || draw(next(next(s)), 1000) >= 500) {
            s++;
        }
        TongueGlass x = Due.court(4, 4);
        Due.text(x, 0, "slips 500;warms 7;");
        Due.text(x, 1, "at 0 glass 2 under 0;");
        x.state(s);
        for (int g = 0; g < 4; g++) {
            x.set(1, g, 350);
            x.act(2, g, 3);
        }
        x.act(0, 1, 2);
        x.act(0, 0, 3);
        x.minutes(1);
        due.is("the first draw is for 0", x.of(0, 1), 300);
        due.is("the second is for 1", x.of(1, 1), 357);
        due.is("the third is for 2", x.of(2, 1), 300);
        due.is("none is for 3, under nobody", x.look(5), next(next(next(s))));
        line(x, 2, 0, 0, 2, 0);
        line(x, 3, 0, 3, 0, 350);
        line(x, 4, 0, 2, 1, 7);
        line(x, 5, 0, 3, 2, 350);
        due.is("look(4)", x.look(4), 6);
    }

    // ---- promises 3 to 5

    private static void learntOfAGlass() {
        for (int v : Due.bounds(0, 99)) {
            TongueGlass x = new TongueGlass();
            due.is("glass(" + v + ")", x.glass(v), 0);
            due.is("LEARNT " + v, x.of(0, 0), v);
        }
        for (int v : Due.beyond(0, 99)) {
            TongueGlass x = new TongueGlass();
            due.is("glass(" + v + ")", x.glass(v), -1);
            due.is("no GLASS comes of it", x.look(0), 0);
            due.is("of(0, 0)", x.of(0, 0), -2);
            due.is("the next one is the first", x.glass(1), 0);
        }
    }

    private static void sixGlasses() {
        TongueGlass x = new TongueGlass();
        for (int i = 0; i < 6; i++) {
            due.is("glass as they come", x.glass(i), i);
            due.is("look(0)", x.look(0), i + 1);
            due.is("LEARNT", x.of(i, 0), i);
            due.is("READS 300 at first", x.of(i, 1), 300);
            due.is("UNDER NONE at first", x.of(i, 2), -1);
            due.is("SAID NONE at first", x.of(i, 3), -1);
            due.is("OFF 0 at first", x.of(i, 4), 0);
            due.is("NEARNESS without a WITNESS", x.of(i, 8), 0);
            due.is("none behind it", x.of(i + 1, 0), -2);
        }
        due.is("the seventh", x.glass(0), -1);
        due.is("look(0)", x.look(0), 6);
        due.is("the last stays", x.of(5, 0), 5);
        due.is("of(6, 0)", x.of(6, 0), -2);
    }

    private static void coldOfAWitness() {
        for (int v : Due.bounds(0, 9)) {
            TongueGlass x = new TongueGlass();
            due.is("witness(" + v + ")", x.witness(v), 0);
            due.is("COLD " + v, x.who(0, 0), v);
        }
        for (int v : Due.beyond(0, 9)) {
            TongueGlass x = new TongueGlass();
            due.is("witness(" + v + ")", x.witness(v), -1);
            due.is("no WITNESS comes of it", x.look(1), 0);
            due.is("who(0, 0)", x.who(0, 0), -2);
            due.is("the next one is the first", x.witness(1), 0);
        }
    }

    private static void twelveWitnesses() {
        TongueGlass x = new TongueGlass();
        for (int i = 0; i < 12; i++) {
            due.is("witness as they come", x.witness(i % 10), i);
            due.is("look(1)", x.look(1), i + 1);
            due.is("COLD", x.who(i, 0), i % 10);
            due.is("KEEPS nothing at first", x.who(i, 1), 0);
            due.is("CALLED 0 at first", x.who(i, 2), 0);
            due.is("GIVEN 0 at first", x.who(i, 3), 0);
            due.is("no GLASS at first", x.who(i, 4), -1);
            due.is("none behind him", x.who(i + 1, 0), -2);
        }
        due.is("the thirteenth", x.witness(0), -1);
        due.is("look(1)", x.look(1), 12);
        due.is("the last stays", x.who(11, 0), 1);
        due.is("who(12, 0)", x.who(12, 0), -2);
    }

    private static void setLearnt() {
        TongueGlass x = Due.court(2, 2);
        for (int v : Due.bounds(0, 99)) {
            due.is("set(0, 1, " + v + ")", x.set(0, 1, v), true);
            due.is("LEARNT", x.of(1, 0), v);
            due.is("of the other", x.of(0, 0), 0);
        }
        for (int v : Due.beyond(0, 99)) {
            due.is("set(0, 1, " + v + ")", x.set(0, 1, v), false);
            due.is("LEARNT stays", x.of(1, 0), 99);
        }
    }

    private static void setReads() {
        TongueGlass x = Due.court(2, 2);
        for (int v : Due.bounds(300, 420)) {
            due.is("set(1, 1, " + v + ")", x.set(1, 1, v), true);
            due.is("READS", x.of(1, 1), v);
            due.is("of the other", x.of(0, 1), 300);
        }
        for (int v : Due.beyond(300, 420)) {
            due.is("set(1, 1, " + v + ")", x.set(1, 1, v), false);
            due.is("READS stays", x.of(1, 1), 420);
            due.is("nothing goes off the top", x.of(1, 4), 0);
        }
    }

    private static void setCold() {
        TongueGlass x = Due.court(2, 2);
        for (int v : Due.bounds(0, 9)) {
            due.is("set(2, 1, " + v + ")", x.set(2, 1, v), true);
            due.is("COLD", x.who(1, 0), v);
            due.is("of the other", x.who(0, 0), 0);
        }
        for (int v : Due.beyond(0, 9)) {
            due.is("set(2, 1, " + v + ")", x.set(2, 1, v), false);
            due.is("COLD stays", x.who(1, 0), 9);
        }
    }

    private static void setAnotherWhat() {
        TongueGlass x = Due.court(2, 2);
        for (int what : Due.beyond(0, 2)) {
            for (int v : new int[] {0, 5, 300}) {
                due.is("set(" + what + ", 0, " + v + ")", x.set(what, 0, v), false);
            }
        }
        due.is("LEARNT", x.of(0, 0), 0);
        due.is("READS", x.of(0, 1), 300);
        due.is("COLD", x.who(0, 0), 0);
    }

    private static void setOfNoneSuch() {
        TongueGlass x = Due.court(2, 3);
        for (int who : Due.beyond(0, 1)) {
            due.is("set(0, " + who + ", 1)", x.set(0, who, 1), false);
            due.is("set(1, " + who + ", 301)", x.set(1, who, 301), false);
        }
        for (int who : Due.beyond(0, 2)) {
            due.is("set(2, " + who + ", 1)", x.set(2, who, 1), false);
        }
        due.is("set(0, 1, 1)", x.set(0, 1, 1), true);
        due.is("set(1, 1, 301)", x.set(1, 1, 301), true);
        due.is("set(2, 2, 1): more WITNESSES than GLASSES", x.set(2, 2, 1), true);
        TongueGlass y = Due.court(3, 2);
        due.is("set(2, 2, 1): more GLASSES than WITNESSES", y.set(2, 2, 1), false);
        due.is("set(0, 2, 1)", y.set(0, 2, 1), true);
        TongueGlass all = Due.court(6, 12);
        due.is("set(0, 5, 1)", all.set(0, 5, 1), true);
        due.is("set(0, 6, 1)", all.set(0, 6, 1), false);
        due.is("set(1, 6, 301)", all.set(1, 6, 301), false);
        due.is("set(2, 11, 1)", all.set(2, 11, 1), true);
        due.is("set(2, 12, 1)", all.set(2, 12, 1), false);
    }

    // ---- promise 6, and "By hand" of Terms 3

    private static void aWitnessHasOneGlassAtMost() {
        TongueGlass x = Due.court(3, 2);
        due.is("a GLASS under nobody, a WITNESS who has none", x.act(0, 2, 1), true);
        due.is("a WITNESS who has one", x.act(0, 0, 1), false);
        due.is("that GLASS stays under nobody", x.of(0, 2), -1);
        due.is("a GLASS that is UNDER another", x.act(0, 2, 0), false);
        due.is("a GLASS that is UNDER him", x.act(0, 2, 1), false);
        due.is("it stays", x.of(2, 2), 1);
        due.is("CALLED once", x.who(1, 2), 1);
        due.is("the other is not CALLED", x.who(0, 2), 0);
        due.is("one line of THE BOOK", x.look(4), 1);
        due.is("one to be undone", x.look(10), 1);
        due.is("who have a GLASS", x.look(3), 2);
        due.is("his GLASS", x.who(1, 4), 2);
        TongueGlass all = Due.court(6, 12);
        for (int g = 0; g < 6; g++) {
            due.is("the last WITNESSES", all.act(0, g, 11 - g), true);
        }
        due.is("who have a GLASS", all.look(3), 4095 - 63);
        due.is("the GLASS of the last", all.who(11, 4), 0);
    }

    private static void actOfNoneSuch() {
        TongueGlass x = Due.court(2, 3);
        for (int v : Due.beyond(0, 2)) {
            due.is("act(0, 0, " + v + ")", x.act(0, 0, v), false);
        }
        for (int g : Due.beyond(0, 1)) {
            for (int what = 0; what < 5; what++) {
                due.is("act(" + what + ", " + g + ", 0)", x.act(what, g, 0), false);
            }
        }
        due.is("nobody is CALLED", x.who(0, 2) + x.who(1, 2) + x.who(2, 2), 0);
        due.is("nothing to be undone", x.look(10), 0);
        due.is("no line of THE BOOK", x.look(4), 0);
        due.is("the last of each", x.act(0, 1, 2), true);
    }

    private static void actAnotherWhat() {
        TongueGlass x = tried(333, 3, "");
        for (int what : Due.beyond(0, 4)) {
            due.is("act(" + what + ", 0, 0)", x.act(what, 0, 0), false);
        }
        due.is("UNDER", x.of(0, 2), 0);
        due.is("READS", x.of(0, 1), 333);
        due.is("LEARNT", x.of(0, 0), 3);
        due.is("one to be undone", x.look(10), 1);
    }

    private static void topicsThatAreSaid() {
        TongueGlass x = Due.court(1, 1);
        for (int v : Due.beyond(0, 15)) {
            due.is("act(2, 0, " + v + ")", x.act(2, 0, v), false);
            due.is("SAID is NONE", x.of(0, 3), -1);
        }
        for (int v : Due.bounds(0, 15)) {
            due.is("act(2, 0, " + v + "), under nobody, too", x.act(2, 0, v), true);
            due.is("SAID", x.of(0, 3), v);
            due.is("not the one that is SAID", x.act(2, 0, v), false);
        }
        due.is("no more to be undone than was said", x.look(10), 4);
        for (int v : Due.beyond(0, 15)) {
            due.is("act(2, 0, " + v + ")", x.act(2, 0, v), false);
        }
        due.is("SAID stays", x.of(0, 3), 15);
        x.minutes(1);
        due.is("said again in the next MINUTE", x.act(2, 0, 15), true);
        due.is("no line of THE BOOK by hand", x.look(4), 0);
    }

    private static void shakingAtThreeHundred() {
        TongueGlass x = Due.court(1, 1);
        due.is("act(3, 0, 0) at 300", x.act(3, 0, 0), false);
        x.set(1, 0, 301);
        for (int v : new int[] {LEAST_INT, MOST_INT, -1}) {
            x.set(1, 0, 301);
            due.is("act(3, 0, " + v + ") at 301", x.act(3, 0, v), true);
            due.is("READS", x.of(0, 1), 300);
        }
        due.is("again", x.act(3, 0, 0), false);
        x.set(1, 0, 420);
        due.is("at 420, under nobody", x.act(3, 0, 0), true);
        due.is("one to be undone", x.look(10), 1);
        due.is("no line of THE BOOK", x.look(4), 0);
    }

    private static void wipingAtNothingLearnt() {
        TongueGlass x = Due.court(1, 1);
        due.is("act(4, 0, 0) at 0", x.act(4, 0, 0), false);
        for (int v : new int[] {LEAST_INT, MOST_INT, -1}) {
            x.set(0, 0, 1);
            due.is("act(4, 0, " + v + ") at 1", x.act(4, 0, v), true);
            due.is("LEARNT", x.of(0, 0), 0);
        }
        due.is("again", x.act(4, 0, 0), false);
        x.set(0, 0, 99);
        due.is("at 99, under nobody", x.act(4, 0, 0), true);
        due.is("one to be undone", x.look(10), 1);
        due.is("no line of THE BOOK", x.look(4), 0);
    }

    private static void takingOutOneUnderNobody() {
        TongueGlass x = Due.court(2, 2);
        due.is("act(1, 0, 0) under nobody", x.act(1, 0, 0), false);
        for (int v : new int[] {LEAST_INT, MOST_INT, -1}) {
            x.act(0, 0, 0);
            due.is("the other is under nobody", x.act(1, 1, 0), false);
            due.is("act(1, 0, " + v + ")", x.act(1, 0, v), true);
            due.is("UNDER", x.of(0, 2), -1);
        }
        due.is("again", x.act(1, 0, 0), false);
        due.is("CALLED three times, out does not take it back", x.who(0, 2), 3);
        due.is("GIVEN is not touched", x.who(0, 3), 0);
        due.is("six lines", x.look(4), 6);
        due.is("six to be undone", x.look(10), 6);
    }

    // ---- promise 7 and Terms 3

    private static void minutesFromOneToSixty() {
        for (int n : Due.bounds(1, 60)) {
            TongueGlass x = Due.court(1, 1);
            due.is("minutes(" + n + ")", x.minutes(n), 0);
            due.is("TIME", x.look(2), n);
        }
        for (int n : Due.beyond(1, 60)) {
            TongueGlass x = tried(333, 0, "slips 500;");
            x.act(2, 0, 0);
            due.is("minutes(" + n + ")", x.minutes(n), -1);
            due.is("TIME stays", x.look(2), 0);
            due.is("READS stays", x.of(0, 1), 333);
            due.is("SAID stays", x.of(0, 3), 0);
            due.is("STATE stays", x.look(5), 0);
            due.is("no more to be undone", x.look(10), 2);
        }
    }

    private static void timeUpTo9999() {
        TongueGlass x = Due.court(1, 1);
        Due.text(x, 0, "slips 1;");
        later(x, 9939);
        due.is("TIME", x.look(2), 9939);
        due.is("minutes(60) up to 9999", x.minutes(60), 0);
        due.is("TIME", x.look(2), 9999);
        x.act(0, 0, 0);
        x.act(2, 0, 5);
        for (int n : new int[] {1, 2, 60}) {
            due.is("minutes(" + n + ") beyond 9999", x.minutes(n), -1);
            due.is("TIME stays", x.look(2), 9999);
            due.is("nothing is SAID away", x.of(0, 3), 5);
            due.is("no draw", x.look(5), 0);
            due.is("what can be undone stays", x.look(10), 6);
        }
        TongueGlass y = Due.court(1, 1);
        later(y, 9940);
        due.is("minutes(60) up to 10000", y.minutes(60), -1);
        due.is("not a part of them", y.look(2), 9940);
        due.is("minutes(59)", y.minutes(59), 0);
        due.is("TIME", y.look(2), 9999);
        due.is("undone", y.undo(), true);
        due.is("minutes(2)", y.minutes(2), -1);
        due.is("minutes(1)", y.minutes(1), 0);
        due.is("TIME", y.look(2), 9999);
    }

    private static void howOftenOffTheTop() {
        TongueGlass x = Due.court(6, 12);
        Due.text(x, 0, "warms 99;");
        Due.text(x, 1, "at 0 glass 0 say 1;at 1 glass 0 under 3;at 1 glass 0 say 1;at 2 glass 5 say 0;");
        x.set(1, 0, 322);
        x.set(1, 5, 420);
        x.act(0, 0, 3);
        x.act(0, 5, 4);
        due.is("one twice and one once", x.minutes(3), 3);
        due.is("OFF of the one", x.of(0, 4), 2);
        due.is("OFF of the other", x.of(5, 4), 1);
        due.is("none in quiet", x.minutes(60), 0);
        for (int g = 0; g < 6; g++) {
            x.set(1, g, 420);
            x.act(0, g, 11 - g);
            x.act(2, g, 15);
        }
        due.is("all six at once", x.minutes(2), 6);
        due.is("GIVEN", x.who(11, 3), 1);
        due.is("GIVEN", x.who(6, 3), 1);
    }

    private static void topAbove420() {
        for (int warms : new int[] {19, 20, 21, 99}) {
            TongueGlass x = tried(400, 7, "warms " + warms + ";");
            x.act(2, 0, 1);
            boolean off = warms > 20;
            due.is("minutes(1) with " + warms, x.minutes(1), off ? 1 : 0);
            due.is("READS", x.of(0, 1), Math.min(420, 400 + warms));
            due.is("OFF", x.of(0, 4), off ? 1 : 0);
            due.is("GIVEN", x.who(0, 3), off ? 1 : 0);
            due.is("UNDER", x.of(0, 2), off ? -1 : 0);
            due.is("LEARNT, too", x.of(0, 0), 8);
            due.is("lines: under, warmed, off the top", x.look(4), off ? 3 : 2);
            due.is("CALLED stays", x.who(0, 2), 1);
        }
        TongueGlass x = tried(420, 0, "warms 0; cools 0;");
        x.act(2, 0, 1);
        due.is("420 and 0 is not above", x.minutes(2), 0);
        due.is("UNDER", x.of(0, 2), 0);
    }

    private static void coolsNotBelow300() {
        int[][] then = {{300, 300}, {301, 300}, {304, 300}, {305, 300}, {306, 301}, {420, 415}};
        for (int[] pair : then) {
            TongueGlass x = tried(pair[0], 3, "");
            x.minutes(1);
            due.is("READS " + pair[0] + " less 5", x.of(0, 1), pair[1]);
            due.is("nothing LEARNT in quiet", x.of(0, 0), 3);
            due.is("no line of it", x.look(4), 1);
        }
        TongueGlass x = tried(399, 0, "cools 99;");
        x.minutes(1);
        due.is("99 less than 399", x.of(0, 1), 300);
        TongueGlass y = tried(398, 0, "cools 9999;");
        y.minutes(1);
        due.is("99 less than 398", y.of(0, 1), 300);
        TongueGlass z = tried(420, 0, "cools 9999;");
        z.minutes(1);
        due.is("99 less than 420", z.of(0, 1), 321);
    }

    private static void learntUpTo99() {
        for (int learnt : new int[] {0, 97, 98, 99}) {
            TongueGlass x = tried(300, learnt, "");
            x.act(2, 0, 0);
            x.minutes(1);
            due.is("one more than " + learnt, x.of(0, 0), Math.min(99, learnt + 1));
            due.is("goes(1, 2) then", x.goes(1, 2), Math.min(99, learnt + 1));
        }
        TongueGlass x = tried(300, 98, "warms learnt;");
        x.act(2, 0, 0);
        x.minutes(1);
        due.is("warms is asked ahead of it", x.of(0, 1), 398);
    }

    private static void learntByNearnessAlone() {
        TongueGlass x = tried(300, 0, "warms 0;");
        x.act(2, 0, 1);
        x.minutes(1);
        due.is("also where warms is 0", x.of(0, 0), 1);
        due.is("no line of it", x.look(4), 1);
        x.act(2, 0, 2);
        x.minutes(1);
        due.is("not where NEARNESS is 0", x.of(0, 0), 1);
        Due.text(x, 0, "warms 1;");
        x.act(2, 0, 2);
        x.minutes(1);
        due.is("though it warms", x.of(0, 0), 1);
        due.is("READS", x.of(0, 1), 301);
        due.is("a line of 1", x.look(4), 2);
        Due.text(x, 2, "topic 0 near 2 1;");
        x.act(2, 0, 2);
        x.minutes(1);
        due.is("NEARNESS 1 is above 0", x.of(0, 0), 2);
    }

    private static void slippingDoesNothingElse() {
        TongueGlass x = tried(420, 5, "slips 1000; warms 99; cools 99;");
        x.act(2, 0, 0);
        due.is("it does not go off the top", x.minutes(1), 0);
        due.is("READS 300", x.of(0, 1), 300);
        due.is("nothing LEARNT", x.of(0, 0), 5);
        due.is("OFF", x.of(0, 4), 0);
        due.is("GIVEN", x.who(0, 3), 0);
        due.is("it stays UNDER", x.of(0, 2), 0);
        due.is("SAID is NONE then", x.of(0, 3), -1);
        due.is("lines: under, slipped", x.look(4), 2);
        line(x, 1, 0, 3, 0, 420);
        x.minutes(1);
        line(x, 2, 1, 3, 0, 300);
    }

    private static void underNobodyNothingComes() {
        TongueGlass x = Due.court(1, 1);
        Due.text(x, 0, "warms 99; slips 1000; cools 99;");
        x.set(1, 0, 333);
        x.act(2, 0, 4);
        due.is("minutes(2)", x.minutes(2), 0);
        due.is("READS", x.of(0, 1), 333);
        due.is("LEARNT", x.of(0, 0), 0);
        due.is("STATE", x.look(5), 0);
        due.is("no line", x.look(4), 0);
        due.is("SAID", x.of(0, 3), -1);
    }

    private static void saidOfAllIsNone() {
        TongueGlass x = Due.court(6, 2);
        x.act(0, 5, 1);
        for (int g = 0; g < 6; g++) {
            x.act(2, g, g + 10);
        }
        x.minutes(1);
        for (int g = 0; g < 6; g++) {
            due.is("SAID of " + g, x.of(g, 3), -1);
        }
    }

    // ---- WALK in a MINUTE

    private static void walkAtItsMinuteAlone() {
        TongueGlass x = Due.court(1, 1);
        Due.text(x, 0, "warms 1; cools 0;");
        Due.text(x, 1, "at 999 glass 0 say 1;at 0 glass 0 say 0;");
        x.act(0, 0, 0);
        x.minutes(1);
        due.is("MINUTE 0", x.of(0, 1), 301);
        later(x, 998);
        due.is("not before 999", x.of(0, 1), 301);
        x.minutes(1);
        due.is("MINUTE 999", x.of(0, 1), 302);
        later(x, 8999);
        due.is("TIME", x.look(2), 9999);
        due.is("never again", x.of(0, 1), 302);
    }

    private static void walkDoesNothingElse() {
        TongueGlass x = Due.court(2, 2);
        x.act(0, 0, 0);
        Due.text(x, 1, "at 0 glass 0 under 1;at 0 glass 1 under 0;at 0 glass 1 out;at 0 glass 1 shake;at 0 glass 1 wipe;"
            + "at 0 glass 1 quiet;at 0 glass 0 under 0;");
        due.is("minutes(1)", x.minutes(1), 0);
        due.is("a GLASS UNDER one stays", x.of(0, 2), 0);
        due.is("a WITNESS who has one gets none", x.of(1, 2), -1);
        due.is("CALLED once", x.who(0, 2), 1);
        due.is("not CALLED", x.who(1, 2), 0);
        due.is("READS 300 stays", x.of(1, 1), 300);
        due.is("LEARNT 0 stays", x.of(1, 0), 0);
        due.is("no line of all that", x.look(4), 1);
        TongueGlass y = Due.court(6, 12);
        Due.text(y, 1, "at 0 glass 5 under 11;at 1 glass 5 out;");
        y.minutes(1);
        due.is("the last of each", y.of(5, 2), 11);
        due.is("look(3)", y.look(3), 2048);
        y.minutes(1);
        due.is("out", y.of(5, 2), -1);
        line(y, 0, 0, 0, 5, 11);
        line(y, 1, 1, 1, 5, 11);
    }

    private static void walkWithinOneMinute() {
        TongueGlass x = tried(420, 9, "warms 10; cools 7;");
        Due.text(x, 1, "at 0 glass 0 say 0;at 0 glass 0 quiet;at 1 glass 0 quiet;at 1 glass 0 say 0;at 2 glass 0 shake;"
            + "at 2 glass 0 wipe;at 3 glass 0 out;at 3 glass 0 under 0;at 4 glass 0 say 3;at 4 glass 0 say 0;");
        x.minutes(1);
        due.is("quiet behind say", x.of(0, 1), 413);
        x.act(2, 0, 5);
        x.minutes(1);
        due.is("say behind quiet: off the top", x.of(0, 1), 420);
        due.is("GIVEN", x.who(0, 3), 1);
        x.act(0, 0, 0);
        x.minutes(1);
        due.is("shaken, then in quiet", x.of(0, 1), 300);
        due.is("wiped", x.of(0, 0), 0);
        x.minutes(1);
        due.is("out and under again", x.of(0, 2), 0);
        due.is("CALLED one more", x.who(0, 2), 3);
        x.minutes(1);
        due.is("the last word counts", x.of(0, 0), 1);
        x.act(2, 0, 0);
        Due.text(x, 1, "at 5 glass 0 quiet;");
        x.minutes(1);
        due.is("quiet takes back what was said by hand", x.of(0, 1), 303);
    }

    private static void eachDeedAlone() {
        String[] deeds = {"say 3", "quiet", "shake", "wipe", "out"};
        int[] reads = {400, 400, 300, 400, 400};
        int[] learnt = {7, 7, 7, 0, 7};
        for (int i = 0; i < deeds.length; i++) {
            TongueGlass x = tried(400, 7, "warms 0;cools 0;");
            Due.text(x, 1, "at 0 glass 0 " + deeds[i] + ";");
            x.minutes(1);
            due.is("READS behind " + deeds[i], x.of(0, 1), reads[i]);
            due.is("LEARNT behind " + deeds[i], x.of(0, 0), learnt[i]);
            due.is("UNDER behind " + deeds[i], x.of(0, 2), i == 4 ? -1 : 0);
            due.is("CALLED behind " + deeds[i], x.who(0, 2), 1);
        }
        for (int what = 1; what <= 4; what++) {
            TongueGlass x = tried(400, 7, "");
            x.act(what, 0, 3);
            due.is("UNDER behind act " + what, x.of(0, 2), what == 1 ? -1 : 0);
            due.is("SAID behind act " + what, x.of(0, 3), what == 2 ? 3 : -1);
            due.is("READS behind act " + what, x.of(0, 1), what == 3 ? 300 : 400);
            due.is("LEARNT behind act " + what, x.of(0, 0), what == 4 ? 0 : 7);
        }
    }

    private static void offTheTopIsFreeInTheNextMinute() {
        TongueGlass x = Due.court(2, 1);
        Due.text(x, 0, "warms 99;");
        Due.text(x, 1, "at 0 glass 0 under 0;at 0 glass 0 say 0;at 0 glass 1 under 0;at 1 glass 1 under 0;at 1 glass 1 say 3;");
        x.set(1, 0, 420);
        due.is("minutes(1)", x.minutes(1), 1);
        due.is("he had one then", x.of(1, 2), -1);
        due.is("CALLED", x.who(0, 2), 1);
        x.minutes(1);
        due.is("free in the next", x.of(1, 2), 0);
        due.is("CALLED", x.who(0, 2), 2);
        due.is("warmed", x.of(1, 1), 399);
    }

    // ---- promises 12 to 15

    private static void nearnessOfAWitness() {
        TongueGlass x = Due.court(2, 2);
        Due.text(x, 2, "topic 0 near 1 9;topic 0 near 15 1;topic 2 near 15 3;topic 2 near 1 4;topic 7 near 8 9;");
        Due.text(x, 3, "witness 1 keeps 0 2 7;");
        int[] want = new int[16];
        want[0] = 10;
        want[1] = 9;
        want[2] = 10;
        want[7] = 10;
        want[8] = 9;
        want[15] = 3;
        x.act(0, 1, 1);
        due.is("of no TOPIC", x.of(1, 8), 0);
        for (int t = 0; t < 16; t++) {
            due.is("NEARNESS with " + t, x.who(1, 10 + t), want[t]);
            due.is("of one who keeps nothing back", x.who(0, 10 + t), 0);
            x.act(2, 1, t);
            due.is("NEARNESS of what is SAID", x.of(1, 8), want[t]);
        }
        x.act(1, 1, 0);
        x.act(2, 1, 0);
        due.is("without a WITNESS", x.of(1, 8), 0);
        due.is("warms without a WITNESS", x.of(1, 5), 0);
    }

    private static void whatOfAGlass() {
        TongueGlass x = Due.court(6, 1);
        for (int what : Due.beyond(0, 8)) {
            due.is("of(5, " + what + ")", x.of(5, what), -2);
        }
        for (int g : Due.beyond(0, 5)) {
            for (int what = 0; what < 9; what++) {
                due.is("of(" + g + ", " + what + ")", x.of(g, what), -2);
            }
        }
        due.is("of(5, 8)", x.of(5, 8), 0);
        due.is("of(0, 7)", x.of(0, 7), 5);
    }

    private static void whatOfAWitness() {
        TongueGlass x = Due.court(1, 12);
        Due.text(x, 3, "witness 11 keeps 0 15;");
        for (int what : new int[] {-1, 5, 6, 9, 26, 27, LEAST_INT, MOST_INT}) {
            due.is("who(11, " + what + ")", x.who(11, what), -2);
        }
        due.is("who(11, 4)", x.who(11, 4), -1);
        due.is("who(11, 10)", x.who(11, 10), 10);
        due.is("who(11, 25)", x.who(11, 25), 10);
        for (int w : Due.beyond(0, 11)) {
            for (int what : new int[] {0, 1, 2, 3, 4, 10, 25}) {
                due.is("who(" + w + ", " + what + ")", x.who(w, what), -2);
            }
        }
    }

    private static void nearOfTopics() {
        TongueGlass x = new TongueGlass();
        Due.text(x, 2, "topic 0 near 15 9;");
        due.is("near(0, 15)", x.near(0, 15), 9);
        due.is("either way", x.near(15, 0), 9);
        due.is("none", x.near(0, 14), 0);
        due.is("alike", x.near(0, 0), 0);
        due.is("alike", x.near(15, 15), 0);
        for (int v : Due.beyond(0, 15)) {
            due.is("near(" + v + ", 0)", x.near(v, 0), -1);
            due.is("near(15, " + v + ")", x.near(15, v), -1);
            due.is("near(" + v + ", " + v + ")", x.near(v, v), -1);
        }
    }

    private static void bookOfNoneSuch() {
        TongueGlass x = Due.court(1, 1);
        due.is("no line", x.book(0, 0), -1);
        x.act(0, 0, 0);
        x.minutes(7);
        x.act(1, 0, 0);
        line(x, 0, 0, 0, 0, 0);
        line(x, 1, 7, 1, 0, 0);
        for (int i : Due.beyond(0, 1)) {
            for (int what = 0; what < 4; what++) {
                due.is("book(" + i + ", " + what + ")", x.book(i, what), -1);
            }
        }
        for (int what : Due.beyond(0, 3)) {
            due.is("book(1, " + what + ")", x.book(1, what), -1);
        }
    }

    private static void bookHowMuch() {
        TongueGlass x = Due.court(3, 4);
        Due.text(x, 0, "warms 1 when reads<420; warms 99; slips 1000 when time=2;");
        x.act(0, 2, 3);
        x.act(2, 2, 9);
        x.set(1, 2, 419);
        x.minutes(1);
        line(x, 0, 0, 0, 2, 3);
        line(x, 1, 0, 2, 2, 1);
        x.act(2, 2, 9);
        x.minutes(1);
        line(x, 2, 1, 2, 2, 99);
        line(x, 3, 1, 4, 2, 3);
        x.act(0, 1, 2);
        x.set(1, 1, 377);
        x.minutes(1);
        line(x, 4, 2, 0, 1, 2);
        line(x, 5, 2, 3, 1, 377);
        x.act(1, 1, 0);
        line(x, 6, 3, 1, 1, 2);
        due.is("look(4)", x.look(4), 7);
    }

    /** 150 lines by hand; the GLASS is under nobody then. */
    private static TongueGlass fullBook(int lines) {
        TongueGlass x = Due.court(1, 1);
        for (int i = 0; i < lines; i++) {
            x.act(i % 2, 0, 0);
        }
        return x;
    }

    private static void bookOf150Lines() {
        TongueGlass x = fullBook(149);
        due.is("149 lines", x.look(4), 149);
        due.is("book(149, 0)", x.book(149, 0), -1);
        due.is("out", x.act(1, 0, 0), true);
        due.is("150 lines", x.look(4), 150);
        line(x, 149, 0, 1, 0, 0);
        due.is("under all the same", x.act(0, 0, 0), true);
        due.is("UNDER", x.of(0, 2), 0);
        due.is("CALLED", x.who(0, 2), 76);
        due.is("no more lines", x.look(4), 150);
        due.is("book(150, 0)", x.book(150, 0), -1);
        line(x, 149, 0, 1, 0, 0);
        x.undo();
        due.is("undone: 150 still", x.look(4), 150);
        x.undo();
        due.is("undone: 149", x.look(4), 149);
        due.is("book(149, 0)", x.book(149, 0), -1);
        x.minutes(4);
        x.act(1, 0, 0);
        line(x, 149, 4, 1, 0, 0);
    }

    private static void bookFullWithinAMinute() {
        TongueGlass x = fullBook(149);
        Due.text(x, 0, "warms 99;");
        Due.text(x, 1, "at 0 glass 0 say 0;at 1 glass 0 out;at 1 glass 0 under 0;");
        x.set(1, 0, 420);
        due.is("149 lines", x.look(4), 149);
        due.is("off the top", x.minutes(1), 1);
        due.is("only warmed is told", x.look(4), 150);
        line(x, 149, 0, 2, 0, 99);
        due.is("but it is off", x.of(0, 2), -1);
        x.minutes(1);
        due.is("under by WALK without a line", x.of(0, 2), 0);
        due.is("150", x.look(4), 150);
        line(x, 149, 0, 2, 0, 99);
    }

    // ---- GOES, TOP, HOTTEST

    private static void goesFromOneToSixty() {
        TongueGlass x = Due.court(1, 1);
        Due.text(x, 0, "warms 1; cools 0;");
        Due.text(x, 1, "at 0 glass 0 under 0;at 0 glass 0 say 1;at 1 glass 0 say 1;at 58 glass 0 say 1;at 59 glass 0 say 1;"
            + "at 60 glass 0 say 1;");
        due.is("goes(1, 0)", x.goes(1, 0), 301);
        due.is("goes(2, 0)", x.goes(2, 0), 302);
        due.is("goes(59, 0)", x.goes(59, 0), 303);
        due.is("goes(60, 0)", x.goes(60, 0), 304);
        for (int n : Due.beyond(1, 60)) {
            for (int what = 0; what < 4; what++) {
                due.is("goes(" + n + ", " + what + ")", x.goes(n, what), -1);
            }
        }
        for (int what : Due.beyond(0, 3)) {
            due.is("goes(1, " + what + ")", x.goes(1, what), -1);
        }
    }

    private static void goesWithoutGlasses() {
        TongueGlass x = new TongueGlass();
        for (int what = 0; what < 4; what++) {
            due.is("goes(60, " + what + ") of nothing", x.goes(60, what), 0);
        }
        TongueGlass y = Due.court(6, 0);
        due.is("READS of all six", y.goes(1, 0), 1800);
        due.is("GIVEN of none", y.goes(60, 3), 0);
        for (int g = 0; g < 6; g++) {
            y.set(0, g, 99);
            y.set(1, g, 420);
        }
        due.is("LEARNT of all six", y.goes(60, 2), 594);
        due.is("READS of all six", y.goes(60, 0), 2520);
    }

    /** OFF and GIVEN are what they are then, those of now with them; GIVEN of all, too, who have no GLASS. */
    private static void goesThenNotNow() {
        TongueGlass x = Due.court(2, 12);
        Due.text(x, 0, "warms 99;");
        x.set(1, 1, 420);
        x.act(0, 1, 11);
        x.act(2, 1, 5);
        due.is("goes(1, 1)", x.goes(1, 1), 1);
        due.is("goes(1, 3)", x.goes(1, 3), 1);
        x.minutes(1);
        due.is("goes(60, 1), it was before", x.goes(60, 1), 1);
        due.is("goes(60, 3), it was before", x.goes(60, 3), 1);
        x.act(0, 1, 0);
        x.act(2, 1, 5);
        due.is("one more OFF", x.goes(1, 1), 2);
        due.is("one more GIVEN", x.goes(60, 3), 2);
    }

    private static void inThoughtSlipsAt500() {
        for (int slips : new int[] {0, 1, 499, 500, 501, 1000}) {
            TongueGlass x = tried(400, 0, "slips " + slips + "; cools 1; warms 50;");
            x.state(77);
            boolean slipped = slips >= 500;
            due.is("goes(1, 0) with slips " + slips, x.goes(1, 0), slipped ? 300 : 399);
            x.act(2, 0, 0);
            due.is("goes(1, 2) with slips " + slips, x.goes(1, 2), slipped ? 0 : 1);
            due.is("top(0) with slips " + slips, x.top(0), slipped ? -1 : 1);
            due.is("no draw", x.look(5), 77);
        }
    }

    private static void nothingOfThoughtStays() {
        TongueGlass x = tried(410, 3, "slips 600 when time=5; warms 30;");
        Due.text(x, 1, "at 0 glass 0 say 0;at 1 glass 0 under 0;at 2 glass 0 wipe;at 3 glass 0 out;");
        x.state(9);
        x.act(2, 0, 1);
        x.goes(60, 0);
        x.top(0);
        x.hottest(0, 0);
        x.hottest(0, 1);
        int[] want = {3, 410, 0, 1, 0};
        for (int what = 0; what < 5; what++) {
            due.is("of(0, " + what + ")", x.of(0, what), want[what]);
        }
        due.is("CALLED", x.who(0, 2), 1);
        due.is("GIVEN", x.who(0, 3), 0);
        due.is("TIME", x.look(2), 0);
        due.is("THE BOOK", x.look(4), 1);
        due.is("STATE", x.look(5), 9);
        due.is("what can be undone", x.look(10), 1);
    }

    private static void topWithin60() {
        for (int at : new int[] {0, 1, 58, 59, 60, 61}) {
            TongueGlass x = tried(420, 0, "warms 1; cools 0;");
            Due.text(x, 1, "at " + at + " glass 0 say 1;");
            due.is("top(0), said at " + at, x.top(0), at > 59 ? -1 : at + 1);
            x.minutes(1);
            due.is("a MINUTE later", x.top(0), at == 0 || at > 60 ? -1 : at);
        }
        TongueGlass x = Due.court(6, 1);
        for (int g : Due.beyond(0, 5)) {
            due.is("top(" + g + ")", x.top(g), -1);
        }
        due.is("top(5)", x.top(5), -1);
        x.set(1, 5, 420);
        x.act(0, 5, 0);
        x.act(2, 5, 0);
        Due.text(x, 0, "warms 1;");
        due.is("top(5)", x.top(5), 1);
        due.is("top(4)", x.top(4), -1);
    }

    private static void topIsMoreThanNow() {
        TongueGlass x = tried(420, 0, "warms 1;");
        x.act(2, 0, 1);
        x.minutes(1);
        due.is("OFF is 1 now", x.of(0, 4), 1);
        due.is("no more then", x.top(0), -1);
        Due.text(x, 1, "at 3 glass 0 under 0;at 3 glass 0 say 1;");
        due.is("more behind three", x.top(0), 3);
    }

    /** In thought all is as it is now, of the last GLASS and the last WITNESS, too. */
    private static void thoughtOfTheLast() {
        TongueGlass x = Due.court(6, 12);
        Due.text(x, 3, "witness 11 keeps 15 3;");
        Due.text(x, 0, "warms cold*10+called*7+off*5+keeps+learnt;cools called+off*3;");
        for (int round = 0; round < 3; round++) {
            x.set(0, 5, 11 * round);
            x.set(1, 5, 420);
            x.set(2, 11, round + 2);
            x.act(0, 5, 11);
            int cooled = x.goes(1, 0);
            x.minutes(1);
            due.is("cools in thought", cooled, 1500 + x.of(5, 1));
            due.is("cools", x.of(5, 1), 420 - x.who(11, 2) - 3 * x.of(5, 4));
            x.set(1, 5, 300);
            x.act(2, 5, 3);
            int warmed = x.goes(1, 0);
            int learnt = x.goes(1, 2);
            x.minutes(1);
            due.is("warms in thought", warmed, 1500 + x.of(5, 1));
            due.is("learnt in thought", learnt, x.of(5, 0));
            due.is("LEARNT", x.of(5, 0), 11 * round + 1);
            x.set(1, 5, 420);
            x.act(2, 5, 15);
            due.is("top(5)", x.top(5), 1);
            due.is("goes(1, 1)", x.goes(1, 1), round + 1);
            due.is("goes(1, 3)", x.goes(1, 3), round + 1);
            due.is("minutes(1)", x.minutes(1), 1);
        }
    }

    /** Only minutes() has the bound of TIME; GOES and TOP name their own alone, and THE LAW is asked with the TIME then. */
    private static void thoughtGoesBeyond9999() {
        String law = "cools 2 when time > 9999; cools 1; slips 500 when said = 1;";
        TongueGlass x = tried(420, 0, law);
        later(x, 9999);
        x.set(1, 0, 420);
        due.is("minutes(1) at 9999", x.minutes(1), -1);
        for (int n = 1; n <= 60; n++) {
            due.is("goes(" + n + ", 0) at 9999", x.goes(n, 0), 421 - 2 * n);
        }
        TongueGlass y = tried(420, 0, law);
        later(y, 9990);
        y.set(1, 0, 420);
        due.is("goes(9, 0) at 9990", y.goes(9, 0), 411);
        due.is("goes(10, 0) at 9990", y.goes(10, 0), 410);
        due.is("goes(11, 0) at 9990", y.goes(11, 0), 408);
        due.is("goes(60, 0) at 9990", y.goes(60, 0), 310);
        due.is("minutes(10) at 9990", y.minutes(10), -1);
        due.lines(y, 0, "cools 0; slips 500 when time = 9999 + 31;", 2);
        due.is("goes(40, 0), ahead of 10030", y.goes(40, 0), 420);
        due.is("goes(41, 0), slipped at 10030", y.goes(41, 0), 300);
        due.is("TIME stays", y.look(2), 9990);
        due.is("READS stays", y.of(0, 1), 420);
    }

    /** The MINUTE that can't go by any more can be thought. */
    private static void topAt9999() {
        TongueGlass x = tried(420, 0, "warms time - 9990;");
        later(x, 9999);
        x.set(1, 0, 420);
        due.is("top(0), nothing SAID", x.top(0), -1);
        x.act(2, 0, 0);
        due.is("top(0) at 9999", x.top(0), 1);
        due.is("warms", x.of(0, 5), 9);
        for (int n : Due.bounds(1, 60)) {
            for (int what = 1; what <= 3; what++) {
                due.is("goes(" + n + ", " + what + ") at 9999", x.goes(n, what), 1);
            }
        }
        due.is("minutes(1)", x.minutes(1), -1);
        due.is("TIME", x.look(2), 9999);
        due.is("OFF", x.of(0, 4), 0);
        due.is("GIVEN", x.who(0, 3), 0);
        due.is("SAID", x.of(0, 3), 0);
    }

    private static void hottestTheLeastOfSeveral() {
        TongueGlass x = tried(300, 0, "");
        due.is("hottest(0, 0)", x.hottest(0, 0), 0);
        due.is("hottest(0, 1)", x.hottest(0, 1), 30);
        Due.text(x, 3, "witness 0 keeps 15;");
        due.is("the greatest TOPIC", x.hottest(0, 0), 15);
        Due.text(x, 3, "witness 0 keeps 15 14 3;");
        due.is("of several the least", x.hottest(0, 0), 3);
        Due.text(x, 3, "");
        due.is("all 0: the least", x.hottest(0, 0), 0);
        due.is("that", x.hottest(0, 1), 0);
        Due.text(x, 0, "warms 9999;");
        due.is("all 99: the least", x.hottest(0, 0), 0);
        due.is("that, held", x.hottest(0, 1), 99);
        Due.text(x, 0, "warms said*7;");
        due.is("said is 1", x.hottest(0, 1), 7);
        x.act(2, 0, 9);
        due.is("SAID or not", x.hottest(0, 1), 7);
        due.is("SAID stays", x.of(0, 3), 9);
        Due.text(x, 2, "topic 5 near 6 1;topic 5 near 7 9;");
        Due.text(x, 3, "witness 0 keeps 5;");
        Due.text(x, 0, "warms 10-near;");
        due.is("near is its NEARNESS", x.hottest(0, 0), 0);
        due.is("10 less 0", x.hottest(0, 1), 10);
        Due.text(x, 0, "warms near when near<10;");
        due.is("7 is 9 near", x.hottest(0, 0), 5);
        due.is("3 times 10", x.hottest(0, 1), 30);
        Due.text(x, 0, "warms near when near<10; warms 0;");
        due.is("7 is 9 near", x.hottest(0, 0), 7);
        due.is("9", x.hottest(0, 1), 9);
    }

    private static void hottestOfNoneSuch() {
        TongueGlass x = Due.court(6, 2);
        for (int g = 0; g < 6; g++) {
            due.is("under nobody, 0", x.hottest(g, 0), -1);
            due.is("under nobody, 1", x.hottest(g, 1), -1);
        }
        x.act(0, 5, 1);
        due.is("under one", x.hottest(5, 0), 0);
        due.is("under one", x.hottest(5, 1), 0);
        for (int g : Due.beyond(0, 5)) {
            due.is("hottest(" + g + ", 0)", x.hottest(g, 0), -1);
            due.is("hottest(" + g + ", 1)", x.hottest(g, 1), -1);
        }
        for (int what : Due.beyond(0, 1)) {
            due.is("hottest(5, " + what + ")", x.hottest(5, what), -1);
        }
        x.act(1, 5, 0);
        due.is("out again", x.hottest(5, 0), -1);
    }
}
