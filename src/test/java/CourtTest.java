/** Promises 1 to 7, 12, 13, 15 to 18, 42 to 44: the court, its minutes, its book, undo and the image. */
public final class CourtTest {
    private static final Due due = new Due();

    public static void main(String[] args) {
        aNewObject();
        statesAndDraws();
        glasses();
        witnesses();
        setting();
        acting();
        minutesAndTime();
        warmingAndLearning();
        slipping();
        cooling();
        offTheTop();
        walking();
        theBook();
        bookIsFull();
        inThought();
        topAtItsEdge();
        allWitnessesGiven();
        hottest();
        undoing();
        whatForgets();
        theImage();
        theBookOfTheImage();
        wrongAsks();
        due.tell();
    }

    private static void aNewObject() {
        TongueGlass x = new TongueGlass();
        for (int what = 0; what <= 10; what++) {
            due.is("look(" + what + ") of a new one", x.look(what), 0);
        }
        due.is("look(11)", x.look(11), -1);
        due.is("look(-1)", x.look(-1), -1);
        due.is("of(0, 0)", x.of(0, 0), -2);
        due.is("who(0, 0)", x.who(0, 0), -2);
        due.is("book(0, 0)", x.book(0, 0), -1);
        due.is("undo()", x.undo(), false);
        due.is("image(false)", x.image(false), false);
        due.is("fault(0)", x.fault(0), 0);
        due.is("fault(1)", x.fault(1), -1);
        due.is("fault(2)", x.fault(2), -1);
    }

    private static void statesAndDraws() {
        TongueGlass x = Due.court(1, 1);
        due.is("state(7)", x.state(7), 0);
        due.is("state(-5)", x.state(-5), 7);
        due.is("look(5)", x.look(5), -5);
        x.act(0, 0, 0);
        Due.text(x, 0, "slips 1;");
        x.minutes(1);
        due.is("STATE behind a draw", x.look(5), 1664525 * -5 + 1013904223);
        Due.text(x, 0, "slips 0;");
        x.minutes(3);
        due.is("no draw where slips is 0", x.look(5), 1664525 * -5 + 1013904223);
    }

    private static void glasses() {
        TongueGlass x = new TongueGlass();
        due.is("glass(-1)", x.glass(-1), -1);
        due.is("glass(100)", x.glass(100), -1);
        for (int i = 0; i < 6; i++) {
            due.is("glass(99)", x.glass(99), i);
        }
        due.is("the seventh", x.glass(0), -1);
        due.is("look(0)", x.look(0), 6);
        int[] at = {99, 300, -1, -1, 0, 0, 0, 5, 0};
        for (int what = 0; what < at.length; what++) {
            due.is("of(5, " + what + ")", x.of(5, what), at[what]);
        }
        due.is("of(5, 9)", x.of(5, 9), -2);
        due.is("of(5, -1)", x.of(5, -1), -2);
        due.is("of(6, 0)", x.of(6, 0), -2);
        due.is("of(-1, 0)", x.of(-1, 0), -2);
    }

    private static void witnesses() {
        TongueGlass x = new TongueGlass();
        due.is("witness(-1)", x.witness(-1), -1);
        due.is("witness(10)", x.witness(10), -1);
        for (int i = 0; i < 12; i++) {
            due.is("witness(9)", x.witness(9), i);
        }
        due.is("the thirteenth", x.witness(0), -1);
        due.is("look(1)", x.look(1), 12);
        int[] is = {9, 0, 0, 0, -1};
        for (int what = 0; what < is.length; what++) {
            due.is("who(11, " + what + ")", x.who(11, what), is[what]);
        }
        due.lines(x, 3, "witness 11 keeps 15 0 3;", 1);
        due.lines(x, 2, "topic 3 near 4 2; topic 4 near 15 6;", 2);
        due.is("KEEPS", x.who(11, 1), 32768 + 1 + 8);
        due.is("nearness with one kept", x.who(11, 10), 10);
        due.is("nearness, the greatest", x.who(11, 14), 6);
        due.is("nearness with none", x.who(11, 11), 0);
        due.is("who(11, 25)", x.who(11, 25), 10);
        for (int what : new int[] {5, 9, 26, -1}) {
            due.is("who(11, " + what + ")", x.who(11, what), -2);
        }
        due.is("who(12, 0)", x.who(12, 0), -2);
        due.is("who(-1, 0)", x.who(-1, 0), -2);
    }

    private static void setting() {
        TongueGlass x = Due.court(1, 1);
        due.is("set(0, 0, 99)", x.set(0, 0, 99), true);
        due.is("LEARNT", x.of(0, 0), 99);
        due.is("set(0, 0, 100)", x.set(0, 0, 100), false);
        due.is("set(0, 0, -1)", x.set(0, 0, -1), false);
        due.is("set(1, 0, 420)", x.set(1, 0, 420), true);
        due.is("READS", x.of(0, 1), 420);
        due.is("OFF is not touched", x.of(0, 4), 0);
        due.is("set(1, 0, 421)", x.set(1, 0, 421), false);
        due.is("set(1, 0, 299)", x.set(1, 0, 299), false);
        due.is("set(2, 0, 9)", x.set(2, 0, 9), true);
        due.is("COLD", x.who(0, 0), 9);
        due.is("set(2, 0, 10)", x.set(2, 0, 10), false);
        due.is("set(2, 1, 1)", x.set(2, 1, 1), false);
        due.is("set(0, 1, 1)", x.set(0, 1, 1), false);
        due.is("set(1, -1, 300)", x.set(1, -1, 300), false);
        due.is("set(3, 0, 1)", x.set(3, 0, 1), false);
        due.is("set(-1, 0, 1)", x.set(-1, 0, 1), false);
    }

    private static void acting() {
        TongueGlass x = Due.court(2, 2);
        due.is("act(0, 0, 2): no such witness", x.act(0, 0, 2), false);
        due.is("act(0, 0, -1)", x.act(0, 0, -1), false);
        due.is("act(0, 2, 0): no such glass", x.act(0, 2, 0), false);
        due.is("act(1, 0, 0): under nobody", x.act(1, 0, 0), false);
        due.is("act(0, 0, 1)", x.act(0, 0, 1), true);
        due.is("CALLED", x.who(1, 2), 1);
        due.is("his GLASS", x.who(1, 4), 0);
        due.is("UNDER", x.of(0, 2), 1);
        due.is("act(0, 0, 0): under another", x.act(0, 0, 0), false);
        due.is("act(0, 1, 1): he has one", x.act(0, 1, 1), false);
        due.is("look(3)", x.look(3), 2);
        due.is("act(1, 0, 77)", x.act(1, 0, 77), true);
        due.is("look(3)", x.look(3), 0);
        due.is("act(0, 0, 1) again", x.act(0, 0, 1), true);
        due.is("CALLED", x.who(1, 2), 2);
        due.is("act(2, 1, 15): under nobody, too", x.act(2, 1, 15), true);
        due.is("SAID", x.of(1, 3), 15);
        due.is("act(2, 1, 15) again", x.act(2, 1, 15), false);
        due.is("act(2, 1, 0)", x.act(2, 1, 0), true);
        due.is("act(2, 1, -1)", x.act(2, 1, -1), false);
        due.is("act(2, 1, 16)", x.act(2, 1, 16), false);
        due.is("act(3, 1, 0): reads 300", x.act(3, 1, 0), false);
        x.set(1, 1, 301);
        due.is("act(3, 1, 9)", x.act(3, 1, 9), true);
        due.is("READS", x.of(1, 1), 300);
        due.is("act(4, 1, 0): nothing learnt", x.act(4, 1, 0), false);
        x.set(0, 1, 1);
        due.is("act(4, 1, 9)", x.act(4, 1, 9), true);
        due.is("LEARNT", x.of(1, 0), 0);
        due.is("act(5, 1, 0)", x.act(5, 1, 0), false);
        due.is("act(-1, 1, 0)", x.act(-1, 1, 0), false);
    }

    private static void minutesAndTime() {
        TongueGlass x = Due.court(1, 1);
        due.is("minutes(0)", x.minutes(0), -1);
        due.is("minutes(61)", x.minutes(61), -1);
        for (int i = 0; i < 166; i++) {
            due.is("minutes(60)", x.minutes(60), 0);
        }
        due.is("TIME", x.look(2), 9960);
        due.is("minutes(40)", x.minutes(40), -1);
        due.is("TIME", x.look(2), 9960);
        due.is("minutes(39)", x.minutes(39), 0);
        due.is("TIME", x.look(2), 9999);
        due.is("minutes(1)", x.minutes(1), -1);
        due.is("undo()", x.undo(), true);
        due.is("TIME", x.look(2), 9998);
    }

    private static void warmingAndLearning() {
        TongueGlass x = Due.court(2, 1);
        x.set(0, 0, 98);
        Due.text(x, 3, "witness 0 keeps 4;");
        Due.text(x, 2, "topic 4 near 5 1;");
        x.set(2, 0, 2);
        x.act(0, 0, 0);
        x.act(2, 0, 5);
        due.is("warms, held to 0", x.of(0, 5), 0);
        due.is("NEARNESS", x.of(0, 8), 1);
        x.minutes(1);
        due.is("LEARNT also where warms is 0", x.of(0, 0), 99);
        due.is("no line where warms is 0", x.look(4), 1);
        x.act(2, 0, 4);
        x.act(2, 1, 4);
        x.minutes(1);
        due.is("LEARNT, 99 at most", x.of(0, 0), 99);
        due.is("READS", x.of(0, 1), 326);
        due.is("SAID is NONE then", x.of(0, 3), -1);
        due.is("SAID of one under nobody, too", x.of(1, 3), -1);
        due.is("one under nobody stays", x.of(1, 1), 300);
        x.act(2, 0, 9);
        Due.text(x, 0, "warms 200;");
        due.is("warms, held to 99", x.of(0, 5), 99);
        x.set(0, 0, 3);
        x.minutes(1);
        due.is("READS 420 after 326 and 99", x.of(0, 1), 420);
        due.is("nothing LEARNT without NEARNESS", x.of(0, 0), 3);
    }

    private static void slipping() {
        TongueGlass x = Due.court(1, 1);
        Due.text(x, 3, "witness 0 keeps 4;");
        Due.text(x, 0, "slips 400 when time<20; slips 1000;");
        x.set(1, 0, 350);
        x.act(0, 0, 0);
        x.state(12345);
        int state = 12345;
        int reads = 350;
        for (int i = 0; i < 20; i++) {
            x.act(2, 0, 4);
            x.minutes(1);
            state = 1664525 * state + 1013904223;
            reads = (state >>> 8) % 1000 < 400 ? 300 : reads + 30;
            if (reads > 420) {
                reads = 420;
                x.act(0, 0, 0);
            }
            due.is("READS by draws at " + i, x.of(0, 1), reads);
            due.is("STATE at " + i, x.look(5), state);
        }
        int learnt = x.of(0, 0);
        int lines = x.look(4);
        x.set(1, 0, 300);
        x.act(2, 0, 4);
        x.minutes(1);
        due.is("slips above every draw", x.of(0, 1), 300);
        due.is("nothing LEARNT then", x.of(0, 0), learnt);
        due.is("a line, 300, too", x.look(4), lines + 1);
        due.is("what", x.book(lines, 1), 3);
        due.is("how much", x.book(lines, 3), 300);
        due.is("TIME", x.book(lines, 0), 20);
    }

    private static void cooling() {
        TongueGlass x = Due.court(2, 1);
        x.set(1, 0, 310);
        x.set(1, 1, 310);
        x.act(0, 0, 0);
        x.minutes(1);
        due.is("5 less", x.of(0, 1), 305);
        due.is("not under nobody", x.of(1, 1), 310);
        x.minutes(2);
        due.is("300 at least", x.of(0, 1), 300);
        Due.text(x, 0, "cools 0-7;");
        due.is("cools held to 0", x.of(0, 7), 0);
        Due.text(x, 0, "cools 9999*9999;");
        due.is("cools held to 99", x.of(0, 7), 99);
        Due.text(x, 0, "slips 9999;");
        due.is("slips held to 1000", x.of(0, 6), 1000);
        Due.text(x, 0, "slips 0-1;");
        due.is("slips held to 0", x.of(0, 6), 0);
    }

    private static void offTheTop() {
        TongueGlass x = Due.court(2, 2);
        Due.text(x, 3, "witness 0 keeps 0; witness 1 keeps 0;");
        x.set(1, 0, 390);
        x.set(1, 1, 391);
        x.act(0, 0, 0);
        x.act(0, 1, 1);
        x.act(2, 0, 0);
        x.act(2, 1, 0);
        due.is("minutes(1)", x.minutes(1), 1);
        due.is("420 is not above", x.of(0, 2), 0);
        due.is("421 is", x.of(1, 2), -1);
        due.is("OFF", x.of(1, 4), 1);
        due.is("READS", x.of(1, 1), 420);
        due.is("LEARNT, too", x.of(1, 0), 1);
        due.is("GIVEN", x.who(1, 3), 1);
        due.is("GIVEN of the other", x.who(0, 3), 0);
        due.is("2 ahead of 4: 2", x.book(3, 1), 2);
        due.is("2 ahead of 4: 4", x.book(4, 1), 4);
        due.is("4: the WITNESS", x.book(4, 3), 1);
        due.is("4: the GLASS", x.book(4, 2), 1);
    }

    private static void walking() {
        TongueGlass x = Due.court(3, 2);
        x.set(1, 0, 400);
        x.set(0, 0, 9);
        Due.text(x, 3, "witness 0 keeps 1;");
        due.lines(x, 1, "at 0 glass 0 under 0; at 0 glass 1 under 0; at 0 glass 0 under 1; at 0 glass 0 say 2;"
            + "at 0 glass 0 quiet; at 1 glass 0 shake; at 1 glass 0 wipe; at 2 glass 0 out; at 2 glass 0 out;"
            + "at 2 glass 1 under 0; at 2 glass 1 say 5; at 2 glass 1 say 1;", 12);
        x.minutes(1);
        due.is("under by WALK", x.of(0, 2), 0);
        due.is("he has one already", x.of(1, 2), -1);
        due.is("CALLED once", x.who(0, 2), 1);
        due.is("the other not CALLED", x.who(1, 2), 0);
        due.is("quiet behind say: it cools", x.of(0, 1), 395);
        x.minutes(1);
        due.is("shaken", x.of(0, 1), 300);
        due.is("wiped", x.of(0, 0), 0);
        x.minutes(1);
        due.is("out", x.of(0, 2), -1);
        due.is("then the next may be under", x.of(1, 2), 0);
        due.is("the last that is said counts", x.of(1, 1), 330);
        due.is("lines: 0 under, out, under, warmed", x.look(4), 4);
        due.is("out once", x.book(1, 1), 1);
        due.is("TIME of it", x.book(1, 0), 2);
        due.is("warmed", x.book(3, 1), 2);
    }

    private static void theBook() {
        TongueGlass x = Due.court(2, 2);
        x.minutes(3);
        x.act(0, 1, 0);
        int[] line = {3, 0, 1, 0};
        for (int what = 0; what < 4; what++) {
            due.is("book(0, " + what + ")", x.book(0, what), line[what]);
        }
        x.act(1, 1, 0);
        due.is("out by hand", x.book(1, 1), 1);
        due.is("book(0, 4)", x.book(0, 4), -1);
        due.is("book(0, -1)", x.book(0, -1), -1);
        due.is("book(2, 0)", x.book(2, 0), -1);
        due.is("book(-1, 0)", x.book(-1, 0), -1);
        x.undo();
        due.is("THE BOOK goes back", x.look(4), 1);
        due.is("book(1, 1)", x.book(1, 1), -1);
    }

    private static void bookIsFull() {
        TongueGlass x = Due.court(1, 1);
        for (int i = 0; i < 80; i++) {
            due.is("under", x.act(0, 0, 0), true);
            due.is("out", x.act(1, 0, 0), true);
        }
        due.is("150 lines", x.look(4), 150);
        due.is("the last", x.book(149, 1), 1);
        due.is("CALLED all the same", x.who(0, 2), 80);
    }

    private static void inThought() {
        TongueGlass x = Due.court(2, 2);
        x.state(99);
        Due.text(x, 3, "witness 0 keeps 0;");
        Due.text(x, 1, "at 0 glass 0 under 0; at 0 glass 0 say 0; at 1 glass 0 say 0; at 2 glass 0 say 0;");
        x.set(1, 0, 340);
        due.is("goes(1, 0)", x.goes(1, 0), 370 + 300);
        due.is("goes(3, 0)", x.goes(3, 0), 420 + 300);
        due.is("goes(3, 1)", x.goes(3, 1), 1);
        due.is("goes(3, 2)", x.goes(3, 2), 3);
        due.is("goes(3, 3)", x.goes(3, 3), 1);
        due.is("goes(60, 1)", x.goes(60, 1), 1);
        due.is("top(0)", x.top(0), 3);
        due.is("top(1)", x.top(1), -1);
        due.is("top(2)", x.top(2), -1);
        due.is("top(-1)", x.top(-1), -1);
        due.is("nothing stays: TIME", x.look(2), 0);
        due.is("nothing stays: lines", x.look(4), 0);
        due.is("nothing stays: UNDER", x.of(0, 2), -1);
        due.is("nothing stays: undo", x.look(10), 0);
        Due.text(x, 0, "slips 499;");
        due.is("499: it does not slip", x.top(0), 3);
        due.is("no draws", x.look(5), 99);
        Due.text(x, 0, "slips 500 when time=2;");
        due.is("500: it slips", x.top(0), -1);
        due.is("READS then", x.goes(3, 0), 600);
        due.is("no draws", x.look(5), 99);
        for (int[] bad : new int[][] {{0, 0}, {61, 0}, {1, 4}, {1, -1}, {-1, 0}}) {
            due.is("goes(" + bad[0] + ", " + bad[1] + ")", x.goes(bad[0], bad[1]), -1);
        }
        x.minutes(3);
        due.is("more OFF than now", x.top(0), -1);
    }

    private static void topAtItsEdge() {
        TongueGlass x = Due.court(1, 1);
        x.act(0, 0, 0);
        Due.text(x, 0, "warms 99; cools 0;");
        x.set(1, 0, 400);
        due.lines(x, 1, "at 59 glass 0 say 0;", 1);
        due.is("off the top in the 60th", x.top(0), 60);
        due.is("goes(59, 1)", x.goes(59, 1), 0);
        due.is("goes(60, 1)", x.goes(60, 1), 1);
        due.lines(x, 1, "at 60 glass 0 say 0;", 1);
        due.is("off the top in the 61st", x.top(0), -1);
        x.minutes(1);
        due.is("one is gone by", x.top(0), 60);
    }

    private static void allWitnessesGiven() {
        TongueGlass x = Due.court(6, 12);
        Due.text(x, 0, "warms 99;");
        for (int round = 0; round < 2; round++) {
            for (int g = 0; g < 6; g++) {
                x.set(1, g, 420);
                x.act(0, g, 6 * round + g);
                x.act(2, g, g);
            }
            due.is("goes(1, 3)", x.goes(1, 3), 6 * round + 6);
            due.is("minutes(1)", x.minutes(1), 6);
        }
        due.is("GIVEN of the last", x.who(11, 3), 1);
        due.is("goes(60, 1)", x.goes(60, 1), 12);
    }

    private static void hottest() {
        TongueGlass x = Due.court(1, 1);
        Due.text(x, 3, "witness 0 keeps 6 3;");
        Due.text(x, 2, "topic 3 near 2 9;");
        due.is("under nobody", x.hottest(0, 0), -1);
        x.act(0, 0, 0);
        due.is("the least of several", x.hottest(0, 0), 3);
        due.is("its warms", x.hottest(0, 1), 30);
        Due.text(x, 0, "warms 50 when said=1 and near=9; warms 7;");
        due.is("by THE LAW", x.hottest(0, 0), 2);
        due.is("that", x.hottest(0, 1), 50);
        Due.text(x, 0, "warms 0;");
        due.is("all alike: the least", x.hottest(0, 0), 0);
        due.is("0", x.hottest(0, 1), 0);
        due.is("hottest(0, 2)", x.hottest(0, 2), -1);
        due.is("hottest(1, 0)", x.hottest(1, 0), -1);
        due.is("hottest(-1, 0)", x.hottest(-1, 0), -1);
        due.is("nothing stays", x.of(0, 3), -1);
    }

    private static void undoing() {
        TongueGlass x = Due.court(1, 1);
        Due.text(x, 3, "witness 0 keeps 0;");
        x.set(0, 0, 5);
        x.set(1, 0, 400);
        x.act(0, 0, 0);
        Due.text(x, 0, "slips 1;");
        x.act(2, 0, 0);
        x.minutes(1);
        due.is("off the top", x.of(0, 4), 1);
        due.is("look(10)", x.look(10), 3);
        due.is("undo()", x.undo(), true);
        due.is("READS", x.of(0, 1), 400);
        due.is("LEARNT", x.of(0, 0), 5);
        due.is("OFF", x.of(0, 4), 0);
        due.is("GIVEN", x.who(0, 3), 0);
        due.is("STATE", x.look(5), 0);
        due.is("TIME", x.look(2), 0);
        due.is("SAID", x.of(0, 3), 0);
        due.is("lines", x.look(4), 1);
        due.is("THE LAW stays as told", x.look(6), 1);
        x.undo();
        due.is("SAID", x.of(0, 3), -1);
        x.undo();
        due.is("UNDER", x.of(0, 2), -1);
        due.is("CALLED", x.who(0, 2), 0);
        due.is("nothing more", x.undo(), false);
        x.act(3, 0, 0);
        x.act(4, 0, 0);
        x.undo();
        due.is("WIPING goes back", x.of(0, 0), 5);
        x.undo();
        due.is("SHAKING goes back", x.of(0, 1), 400);
        x.act(0, 0, 0);
        x.act(1, 0, 0);
        x.undo();
        due.is("OUT goes back", x.of(0, 2), 0);
        x.minutes(9);
        due.is("6 are kept", x.look(10), 6);
        for (int i = 0; i < 6; i++) {
            due.is("undo()", x.undo(), true);
        }
        due.is("the seventh", x.undo(), false);
        due.is("TIME", x.look(2), 3);
    }

    private static void whatForgets() {
        TongueGlass x = Due.court(1, 1);
        x.minutes(2);
        x.set(0, 0, 100);
        x.glass(100);
        x.witness(-1);
        x.act(3, 0, 0);
        x.minutes(0);
        x.text(9);
        Due.text(x, 1, "at");
        Due.text(x, 3, "witness");
        x.image(false);
        due.is("what can't be forgets nothing", x.look(10), 2);
        Due.text(x, 0, "");
        Due.text(x, 2, "");
        x.warmth(1, 1);
        x.warmth(-1, 1);
        x.world(1, 1);
        x.point(1, 1);
        x.saying(1, 1);
        x.coal(1);
        x.shown(1);
        x.cost(1, 1);
        x.reading(1);
        x.dog(1);
        x.juror(1);
        x.goes(5, 0);
        x.top(0);
        x.image(true);
        due.is("nor what is told for thought", x.look(10), 2);
        forgets("state", x.state(1) == 0, x);
        forgets("glass", x.glass(1) == 1, x);
        forgets("witness", x.witness(1) == 1, x);
        forgets("set", x.set(0, 0, 0), x);
        forgets("WALK", Due.text(x, 1, "") == 0, x);
        forgets("KEEPS", Due.text(x, 3, "") == 0, x);
        forgets("the image", x.image(false), x);
    }

    private static void forgets(String what, boolean done, TongueGlass x) {
        due.is(what + " is done", done, true);
        due.is(what + " forgets", x.look(10), 0);
        x.minutes(1);
    }

    private static void theImage() {
        TongueGlass x = Due.court(1, 1);
        tellForThought(x, 3);
        Due.text(x, 0, "warms 1;");
        Due.text(x, 1, "at 500 glass 0 out;");
        Due.text(x, 2, "topic 0 near 1 4;");
        Due.text(x, 3, "witness 0 keeps 0;");
        x.act(0, 0, 0);
        x.minutes(2);
        long before = asked(x);
        due.is("image(true)", x.image(true), true);
        due.is("what can be undone stays", x.look(10), 3);
        for (int again = 0; again < 2; again++) {
            x.undo();
            x.undo();
            x.undo();
            x.act(2, 0, 3);
            x.act(0, 0, 0);
            x.glass(4);
            x.witness(4);
            x.state(77);
            x.set(0, 0, 50);
            tellForThought(x, -1);
            tellForThought(x, 5);
            Due.text(x, 0, "warms 9; warms 2;");
            Due.text(x, 1, "");
            Due.text(x, 2, "topic 0 near 1 5; topic 2 near 3 5;");
            Due.text(x, 3, "");
            x.minutes(5);
            Due.feed(x, "topic 77;");
            x.text(2);
            Due.feed(x, "witness 0 keeps 9;");
            due.is("image(false)", x.image(false), true);
            due.is("all is as it was", asked(x), before);
            due.is("nothing can be undone", x.look(10), 0);
            due.is("fault() is not of it", x.fault(0), 2);
            due.is("nor is the TAPE", x.text(3), 1);
            due.is("so it was told", x.who(0, 1), 512);
        }
    }

    /** Undo and new lines write over those that the image has. */
    private static void theBookOfTheImage() {
        TongueGlass x = Due.court(2, 2);
        x.act(0, 0, 0);
        x.act(0, 1, 1);
        x.image(true);
        for (int again = 0; again < 2; again++) {
            x.undo();
            x.undo();
            x.minutes(3);
            x.act(0, 1, 0);
            x.act(0, 0, 1);
            x.act(1, 0, 0);
            due.is("image(false)", x.image(false), true);
            int[] lines = {0, 0, 0, 0, 0, 0, 1, 1};
            for (int i = 0; i < 8; i++) {
                due.is("book(" + i / 4 + ", " + i % 4 + ")", x.book(i / 4, i % 4), lines[i]);
            }
            due.is("look(4)", x.look(4), 2);
        }
    }

    /** With NONE everything told for thought is taken back. */
    private static void tellForThought(TongueGlass x, int v) {
        x.warmth(v, 0);
        x.world(v, 7);
        x.point(v, v * v);
        x.saying(v, 9);
        x.coal(v < 0 ? v : v + 4);
        x.shown(v);
        x.cost(0, v + 1);
        x.reading(v);
        x.dog(v);
        x.juror(v);
    }

    private static long asked(TongueGlass x) {
        long all = 0;
        for (int what = 0; what < 10; what++) {
            all = 31 * all + x.look(what);
        }
        for (int what = 0; what < 9; what++) {
            all = 31 * all + x.of(0, what);
        }
        for (int what = 0; what < 26; what++) {
            all = 31 * all + x.who(0, what);
        }
        for (int what = 0; what < 4; what++) {
            all = 31 * all + x.book(0, what);
        }
        int[] thoughts = {x.near(0, 1), x.near(2, 3), x.fits(1, 0), x.sure(0, 515, 0), x.sure(1, 515, 0), x.term(),
            x.cool(30, 12), x.cool(60, 30), x.coals(0), x.coals(1), x.show(3, 1), x.show(5, 1), x.change(3, 4, 0),
            x.steady(0, 0), x.dogs(1), x.jury(3, -1), x.jury(5, -1), x.goes(9, 0), x.of(1, 0), x.who(1, 0)};
        for (int v : thoughts) {
            all = 31 * all + v;
        }
        return all;
    }

    private static void wrongAsks() {
        TongueGlass x = Due.court(6, 12);
        int[] odd = {Integer.MIN_VALUE, Integer.MIN_VALUE + 1, -2, 99999, Integer.MAX_VALUE};
        for (int v : odd) {
            due.is("glass", x.glass(v), -1);
            due.is("witness", x.witness(v), -1);
            due.is("set", x.set(v, 0, 0) || x.set(0, v, 0) || x.set(0, 0, v), false);
            due.is("act", x.act(v, 0, 0) || x.act(0, v, 0) || x.act(0, 0, v) || x.act(2, 0, v), false);
            due.is("minutes", x.minutes(v), -1);
            due.is("of", x.of(v, 0) + x.of(0, v), -4);
            due.is("who", x.who(v, 0) + x.who(0, v), -4);
            due.is("book", x.book(v, 0), -1);
            due.is("goes", x.goes(v, 0) + x.goes(1, v), -2);
            due.is("top", x.top(v), -1);
            due.is("hottest", x.hottest(v, 0) + x.hottest(0, v), -2);
            due.is("look", x.look(v), -1);
            due.is("fault", x.fault(v), -1);
        }
    }
}
