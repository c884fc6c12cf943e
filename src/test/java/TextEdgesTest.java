/**
 * The document's sentences that name an edge of the texts: Terms 2, promises 8 to 11. Each sentence has a
 * method; no object is called more than 512 times.
 */
public final class TextEdgesTest {
    private static final Due due = new Due();
    private static final String[] ONE = {"warms 7;", "at 0 glass 0 say 1;", "topic 0 near 1 2;", "witness 0 keeps 1;"};
    private static final String[][] WORDS = {
        {"warms", "slips", "cools", "when", "or", "and", "not", "near", "cold", "reads", "learnt", "said", "keeps", "called",
            "off", "glass", "time"},
        {"at", "glass", "say", "quiet", "shake", "wipe", "under", "out"},
        {"topic", "near"},
        {"witness", "keeps"}};

    public static void main(String[] args) {
        tapeOf400Bytes();
        tapeBehindItsEnd();
        nothingBehindTheEnd();
        highestByteFirst();
        endOfTheTape();
        noSuchText();
        tapeIsEmptyThen();
        textsAreEmptyAtFirst();
        anEmptyTapeIsAText();
        aTextStaysWithAFault();
        aTextTakesThePlaceOfTheLast();
        faultOfTheLatestText();
        faultAnotherWhat();
        sixteenLines();
        theSeventeenthLine();
        theSeventeenthThatCannotStand();
        everyByteBetween();
        everyByteAtFirst();
        keywordsOfThatTextAlone();
        keywordsThatStandTogether();
        numbersOfOneToFourDigits();
        blanksBetween();
        theEndIsTheLength();
        minutesOfWalk();
        glassesThatThereAre();
        witnessesThatThereAre();
        topicsOfTexts();
        nearFromOneToNine();
        unlikeTopicsOfNear();
        nearEitherWayTheGreatest();
        aPartByZero();
        oneToSixOfKeeps();
        keepsOfTheLastLine();
        eightAreOpen();
        closedOnesAreNotOpen();
        orAndNot();
        lessAlikeAndMore();
        theFirstByItsPlace();
        atOnePlaceTheLeast();
        whatCannotStandInALaw();
        whatCannotStandInTheOthers();
        toldIsHeld();
        toldWithoutALine();
        toldByTheFirstLine();
        intsWrap();
        partsGoTowardsZero();
        namesAtTheirEdges();
        namesWithoutAWitness();
        due.tell();
    }

    // ---- helpers

    private static TongueGlass court() {
        return Due.court(2, 2);
    }

    private static void faulty(int k, String text, int kind, int place) {
        due.fault(court(), k, text, kind, place);
    }

    private static void fine(int k, String text, int lines) {
        due.lines(court(), k, text, lines);
    }

    /** What THE LAW tells of a GLASS under nobody for a word: 5 warms, 6 slips, 7 cools. */
    private static void told(String law, int what, int want) {
        TongueGlass x = court();
        Due.text(x, 0, law);
        due.is("fault(0) of " + law, x.fault(0), 0);
        due.is("of(1, " + what + ") by " + law, x.of(1, what), want);
    }

    private static void so(String b, boolean want) {
        told("warms 1 when " + b + ";", 5, want ? 1 : 0);
    }

    // ---- promises 8 to 11

    private static void tapeOf400Bytes() {
        TongueGlass x = new TongueGlass();
        for (int i = 1; i <= 20; i++) {
            due.is("feed", x.feed(0x20202020, 0x20202020, 0x20202020, 0x20202020, 0x20202020), 20 * i);
        }
        due.is("no more than 400", x.feed(1, 2, 3, 4, 5), -1);
        due.is("nothing comes", x.end(401), false);
        due.is("400 there are", x.end(400), true);
        due.is("again", x.feed(1, 2, 3, 4, 5), -1);
        due.is("all are blanks", x.text(0), 0);
        due.is("an empty one has room again", x.feed(0, 0, 0, 0, 0), 20);
    }

    private static void tapeBehindItsEnd() {
        for (int n = 378; n <= 383; n++) {
            TongueGlass x = new TongueGlass();
            Due.feed(x, Due.times(" ", 400));
            due.is("end(" + n + ")", x.end(n), true);
            due.is("feed behind " + n, x.feed(-1, -1, -1, -1, -1), n <= 380 ? n + 20 : -1);
            due.is("end(" + (n + 20) + ")", x.end(n + 20), n <= 380);
            due.is("text(0)", x.text(0), n <= 380 ? -1 : 0);
            due.is("what comes stands behind it", x.fault(1), n <= 380 ? n : -1);
        }
        TongueGlass x = court();
        due.is("feed", x.feed(0x7761726d, 0x7320373b, -1, -1, -1), 20);
        due.is("end(8)", x.end(8), true);
        due.is("feed", x.feed(0x636f6f6c, 0x7320383b, -1, -1, -1), 28);
        due.is("end(16)", x.end(16), true);
        due.is("two lines", x.text(0), 2);
        due.is("warms", x.of(0, 5), 7);
        due.is("cools", x.of(0, 7), 8);
    }

    /** What once stood behind the end is no more of the TAPE, though it would go on with a token. */
    private static void nothingBehindTheEnd() {
        String[] cut = {"warms|x 1;", "warms 1|;", "warms |1;", "warms 1 when 1=1 |and", "warms 1/|0"};
        for (String text : cut) {
            int n = text.indexOf('|');
            TongueGlass x = court();
            Due.feed(x, text.substring(0, n) + text.substring(n + 1));
            due.is("end(" + n + ")", x.end(n), true);
            due.is("text(0) of " + text, x.text(0), -1);
            due.is("fault(0) of " + text, x.fault(0), 1);
            due.is("fault(1) of " + text, x.fault(1), n);
        }
        TongueGlass x = court();
        Due.feed(x, "topic 17 near 1 2;");
        x.end(7);
        x.text(2);
        due.is("1, not 17", x.fault(1), 7);
        due.fault(x, 0, "warms 1 when near=coldreadslearntsaid", 1, 18);
        due.fault(x, 0, "warms 1 when near=cold", 1, 22);
        due.fault(x, 0, "warms 1 when near", 1, 17);
    }

    private static void highestByteFirst() {
        for (int at = 0; at < 20; at++) {
            int[] v = {0x20202020, 0x20202020, 0x20202020, 0x20202020, 0x20202020};
            v[at / 4] ^= (32 ^ 200) << 24 - at % 4 * 8;
            TongueGlass x = new TongueGlass();
            due.is("feed", x.feed(v[0], v[1], v[2], v[3], v[4]), 20);
            x.text(0);
            due.is("the byte of " + at, x.fault(1), at);
        }
    }

    private static void endOfTheTape() {
        TongueGlass x = court();
        due.is("end(0) of an empty one", x.end(0), true);
        due.is("end(1) of an empty one", x.end(1), false);
        Due.feed(x, "warms 7;");
        for (int n : new int[] {-1, 9, 20, Integer.MIN_VALUE, Integer.MAX_VALUE}) {
            due.is("end(" + n + ") of 8", x.end(n), false);
        }
        due.is("end(8) of 8", x.end(8), true);
        due.is("nothing changed", x.text(0), 1);
        Due.feed(x, "warms 8;;;;");
        due.is("end(8) of 11", x.end(8), true);
        due.is("end(9) then", x.end(9), false);
        due.is("its first bytes alone", x.text(0), 1);
        Due.feed(x, "warms 9;");
        due.is("end(0)", x.end(0), true);
        due.is("an empty text", x.text(0), 0);
    }

    private static void noSuchText() {
        for (int k : Due.beyond(0, 3)) {
            TongueGlass x = court();
            for (int i = 0; i < 4; i++) {
                Due.text(x, i, ONE[i]);
            }
            due.fault(x, 0, "warms", 1, 5);
            Due.feed(x, "warms 8;");
            due.is("text(" + k + ")", x.text(k), -1);
            due.is("fault(0)", x.fault(0), 0);
            due.is("fault(1)", x.fault(1), -1);
            due.is("the TAPE is empty", x.end(1), false);
            for (int i = 0; i < 4; i++) {
                due.is("the TEXTS stay", x.look(6 + i), 1);
            }
            due.is("warms", x.of(0, 5), 7);
        }
    }

    private static void tapeIsEmptyThen() {
        for (int k = 0; k < 4; k++) {
            TongueGlass x = court();
            Due.feed(x, ONE[k]);
            due.is("text(" + k + ")", x.text(k), 1);
            due.is("empty behind a TEXT", x.end(1), false);
            Due.feed(x, ONE[k] + ";");
            due.is("text(" + k + ")", x.text(k), -1);
            due.is("empty behind a FAULT", x.end(1), false);
            due.is("feed counts from 0", x.feed(0, 0, 0, 0, 0), 20);
        }
    }

    private static void textsAreEmptyAtFirst() {
        TongueGlass x = court();
        for (int k = 0; k < 4; k++) {
            due.is("lines of " + k, x.look(6 + k), 0);
        }
        due.is("warms", x.of(0, 5), 0);
        due.is("slips", x.of(0, 6), 0);
        due.is("cools", x.of(0, 7), 5);
        due.is("near", x.near(0, 1), 0);
        due.is("keeps", x.who(0, 1), 0);
        due.is("goes", x.goes(60, 0), 600);
    }

    private static void anEmptyTapeIsAText() {
        for (int k = 0; k < 4; k++) {
            for (String empty : new String[] {"", " ", "\n", Due.times(" \n", 200)}) {
                TongueGlass x = court();
                for (int i = 0; i < 4; i++) {
                    due.lines(x, i, ONE[i], 1);
                }
                due.lines(x, k, empty, 0);
                for (int i = 0; i < 4; i++) {
                    due.is("the others stay", x.look(6 + i), i == k ? 0 : 1);
                }
                due.is("warms", x.of(0, 5), k == 0 ? 0 : 7);
                due.is("near", x.near(0, 1), k == 2 ? 0 : 2);
                due.is("keeps", x.who(0, 1), k == 3 ? 0 : 2);
                x.act(0, 0, 0);
                due.is("walk", x.goes(1, 0), k == 1 ? 600 : k == 0 ? 630 : 607);
            }
        }
    }

    private static void aTextStaysWithAFault() {
        String[] faults = {"warms 8; warms 9", "at 0 glass 0 quiet; at 0 glass 9 quiet;", "topic 0 near 1 9; topic 2 near 3 10;",
            "witness 1 keeps 2; witness 0 keeps 3; witness"};
        for (int k = 0; k < 4; k++) {
            TongueGlass x = court();
            for (int i = 0; i < 4; i++) {
                due.lines(x, i, ONE[i], 1);
            }
            x.act(0, 0, 0);
            Due.text(x, k, faults[k]);
            due.is("a FAULT", x.fault(0) > 0, true);
            for (int i = 0; i < 4; i++) {
                due.is("lines", x.look(6 + i), 1);
            }
            due.is("warms", x.of(0, 5), 7);
            due.is("walk", x.goes(1, 0), 607);
            due.is("near", x.near(0, 1), 2);
            due.is("near", x.near(2, 3), 0);
            due.is("keeps", x.who(0, 1), 2);
            due.is("keeps", x.who(1, 1), 0);
            due.is("nothing is told: what can be undone stays", x.look(10), 1);
        }
    }

    private static void aTextTakesThePlaceOfTheLast() {
        TongueGlass x = court();
        due.lines(x, 0, "warms 1;slips 2;cools 3;", 3);
        due.lines(x, 0, "slips 9;", 1);
        due.is("warms", x.of(0, 5), 0);
        due.is("slips", x.of(0, 6), 9);
        due.is("cools", x.of(0, 7), 5);
        due.lines(x, 2, "topic 1 near 2 3;topic 3 near 4 5;", 2);
        due.lines(x, 2, "topic 4 near 3 1;", 1);
        due.is("near(1, 2)", x.near(1, 2), 0);
        due.is("near(3, 4): not the greatest of both texts", x.near(3, 4), 1);
    }

    private static void faultOfTheLatestText() {
        TongueGlass x = court();
        due.is("fault(0) without a text", x.fault(0), 0);
        due.is("fault(1) without a text", x.fault(1), -1);
        due.fault(x, 2, "topic 1 near 1", 2, 13);
        x.minutes(1);
        x.image(true);
        x.feed(0x20202020, 0x20202020, 0x20202020, 0x20202020, 0x20202020);
        x.image(false);
        due.is("fault(0) stays", x.fault(0), 2);
        due.is("fault(1) stays", x.fault(1), 13);
        due.is("text(3)", x.text(3), 0);
        due.is("fault(0) of a text without one", x.fault(0), 0);
        due.is("fault(1) of a text without one", x.fault(1), -1);
        due.fault(x, 0, " warms", 1, 6);
        due.fault(x, 3, "witness 0 keeps", 1, 15);
        due.fault(x, 1, ";", 1, 0);
    }

    private static void faultAnotherWhat() {
        TongueGlass x = court();
        due.fault(x, 2, "topic 16", 2, 6);
        for (int what : Due.beyond(0, 1)) {
            due.is("fault(" + what + ")", x.fault(what), -1);
        }
        due.is("fault(0)", x.fault(0), 2);
        due.is("fault(1)", x.fault(1), 6);
    }

    // ---- lines

    private static void sixteenLines() {
        for (int k = 0; k < 4; k++) {
            fine(k, Due.times(ONE[k], 15), 15);
            fine(k, Due.times(ONE[k], 16), 16);
        }
        fine(0, Due.times("warms 1;slips 1;cools 1;", 5) + "slips 1;", 16);
        TongueGlass x = court();
        due.lines(x, 0, Due.times("warms 1 when 1=2;", 15) + "warms 9;", 16);
        due.is("the 16th counts", x.of(0, 5), 9);
        due.lines(x, 2, Due.times("topic 0 near 1 2;", 15) + "topic 0 near 1 3;", 16);
        due.is("the 16th counts", x.near(0, 1), 3);
        due.lines(x, 3, Due.times("witness 0 keeps 2;", 15) + "witness 0 keeps 3;", 16);
        due.is("the 16th counts", x.who(0, 1), 8);
        due.lines(x, 0, Due.times("warms 1;", 15) + "cools 9 when 1=1;", 16);
        due.is("the 16th is of cools", x.of(0, 7), 9);
        due.lines(x, 0, Due.times("warms 1;", 15) + "slips 8;", 16);
        due.is("the 16th is of slips", x.of(0, 6), 8);
        due.lines(x, 1, Due.times("at 0 glass 0 wipe;", 15) + "at 2 glass 1 under 1;", 16);
        x.minutes(2);
        due.is("the 16th has its MINUTE", x.of(1, 2), -1);
        x.minutes(1);
        due.is("the 16th has its GLASS", x.of(1, 2), 1);
        due.is("and no other", x.of(0, 2), -1);
    }

    private static void theSeventeenthLine() {
        for (int k = 0; k < 4; k++) {
            int behind = 16 * ONE[k].length();
            faulty(k, Due.times(ONE[k], 17), 3, behind);
            faulty(k, Due.times(ONE[k], 16) + " " + WORDS[k][0], 3, behind + 1);
            faulty(k, Due.times(ONE[k], 16) + "\n\n" + WORDS[k][0] + " " + WORDS[k][0], 3, behind + 2);
        }
        for (String head : new String[] {"warms", "slips", "cools"}) {
            faulty(0, Due.times("slips 1;", 16) + head + " 1/0;", 3, 128);
        }
    }

    private static void theSeventeenthThatCannotStand() {
        for (int k = 0; k < 4; k++) {
            int behind = 16 * ONE[k].length();
            for (String word : new String[] {WORDS[k][WORDS[k].length - 1], "xyz", ";", "5", "" + (char) 200, WORDS[k][0] + "s"}) {
                faulty(k, Due.times(ONE[k], 16) + word, 1, behind);
            }
        }
    }

    // ---- tokens

    private static boolean letter(int b) {
        return b >= 65 && b <= 90 || b >= 97 && b <= 122;
    }

    private static void everyByteBetween() {
        for (int b = 0; b < 256; b++) {
            String text = "warms" + (char) b + "1;";
            if (b == 32 || b == 10 || b >= 48 && b <= 57) {
                fine(0, text, 1);
            } else {
                faulty(0, text, 1, letter(b) ? 0 : 5);
            }
        }
    }

    private static void everyByteAtFirst() {
        for (int b = 0; b < 256; b++) {
            for (int k = 1; k < 4; k++) {
                String text = (char) b + ONE[k];
                if (b == 32 || b == 10) {
                    fine(k, text, 1);
                } else {
                    faulty(k, text, 1, 0);
                }
            }
        }
    }

    /** Where a text begins, its first words alone can stand; those of other texts are none. */
    private static void keywordsOfThatTextAlone() {
        for (int k = 0; k < 4; k++) {
            for (int other = 0; other < 4; other++) {
                for (int i = 0; i < WORDS[other].length; i++) {
                    boolean head = other == k && i < (k == 0 ? 3 : 1);
                    faulty(k, WORDS[other][i] + " ;", 1, head ? WORDS[other][i].length() + 1 : 0);
                }
            }
        }
        for (int i = 0; i < WORDS[0].length; i++) {
            String text = "warms " + WORDS[0][i] + ";";
            if (i < 7) {
                faulty(0, text, 1, 6);
            } else {
                fine(0, text, 1);
            }
        }
        for (String word : new String[] {"at", "say", "quiet", "shake", "wipe", "under", "out", "topic", "witness", "glasses"}) {
            faulty(0, "warms " + word + ";", 1, 6);
        }
    }

    private static void keywordsThatStandTogether() {
        faulty(0, "warm s 1;", 1, 0);
        faulty(0, "warmsnear;", 1, 0);
        faulty(0, "WARMS 1;", 1, 0);
        faulty(0, "warmS 1;", 1, 0);
        faulty(0, "warms nearcold;", 1, 6);
        faulty(0, "warms 1 when not1=1andnot2=2;", 1, 19);
        fine(0, "warms 1 when not1=1and not2=2or(3=3);cools2+3*near/4-5;", 2);
        faulty(0, "warms times;", 1, 6);
        faulty(0, "warms tim;", 1, 6);
        faulty(0, "warms time", 1, 10);
        faulty(1, "at 0 glass 0 outs;", 1, 13);
        faulty(2, "topic 0 nears 1 2;", 1, 8);
        faulty(3, "witness 0 keepss 1;", 1, 10);
        fine(1, "at0glass0say15;at0glass0quiet;at0glass0under0;", 3);
        fine(2, "topic0near1 2;", 1);
        faulty(2, "topic0near12;", 1, 12);
        fine(3, "witness0keeps1;", 1);
        TongueGlass x = court();
        due.lines(x, 3, "witness0keeps1 2;", 1);
        due.is("1 2 are two", x.who(0, 1), 6);
        due.lines(x, 3, "witness0keeps12;", 1);
        due.is("12 is one", x.who(0, 1), 4096);
    }

    private static void numbersOfOneToFourDigits() {
        String[] numbers = {"0", "9", "10", "99", "100", "999", "1000", "9999", "0000", "0009", "00"};
        for (String n : numbers) {
            told("slips " + n + "-" + n + "+1;", 6, 1);
            told("slips " + n + ";", 6, Math.min(1000, Integer.parseInt(n)));
        }
        for (String n : new String[] {"10000", "00000", "00001", "99999", "123456789", "2147483648", "4294967296"}) {
            faulty(0, "slips " + n + ";", 1, 6);
            faulty(0, "slips 1/" + n + ";", 1, 8);
            faulty(1, "at " + n + " glass 0 out;", 1, 3);
            faulty(2, "topic 0 near 1 " + n + ";", 1, 15);
            faulty(3, "witness 0 keeps " + n + ";", 1, 16);
            faulty(3, "witness 0 keeps 1 " + n + ";", 1, 18);
        }
        fine(1, "at 0000 glass 0000 say 0015;", 1);
        fine(2, "topic 0015 near 0000 0009;", 1);
        fine(3, "witness 0001 keeps 0001;", 1);
        faulty(0, "slips " + Due.times("9", 394), 1, 6);
    }

    private static void blanksBetween() {
        fine(0, " \n warms \n 1 \n + \n 2 \n ; \n ", 1);
        fine(0, "warms1+2;", 1);
        for (int b : new int[] {0, 9, 11, 12, 13, 31, 33, 127, 160, 255}) {
            faulty(0, "warms 1;" + (char) b, 1, 8);
        }
        told("warms 12;", 5, 12);
        faulty(0, "warms 1 2;", 1, 8);
        faulty(0, "warms 1\n2;", 1, 8);
        faulty(0, "wa rms 1;", 1, 0);
    }

    private static void theEndIsTheLength() {
        String[] whole = {"warms 1/2*near when not (1<2 or 3=4) and 5>6;", "at 0 glass 0 under 1;", "topic 0 near 1 2;",
            "witness 0 keeps 1 2;"};
        for (int k = 0; k < 4; k++) {
            for (int n = 1; n < whole[k].length(); n++) {
                String cut = whole[k].substring(0, n);
                if (letter(cut.charAt(n - 1)) && letter(whole[k].charAt(n))) {
                    continue;
                }
                faulty(k, cut, 1, n);
                faulty(k, cut + "  \n", 1, n + 3);
            }
        }
        faulty(0, "warms" + Due.times(" ", 395), 1, 400);
        faulty(0, "warms 1" + Due.times(" ", 392), 1, 399);
    }

    // ---- numbers beyond their bounds

    private static void minutesOfWalk() {
        for (int v : Due.bounds(0, 999)) {
            fine(1, "at " + v + " glass 0 out;", 1);
        }
        for (int v : new int[] {1000, 1001, 9999}) {
            faulty(1, "at " + v + " glass 0 out;", 2, 3);
        }
        faulty(1, "at -1 glass 0 out;", 1, 3);
    }

    private static void glassesThatThereAre() {
        for (int n = 0; n <= 6; n++) {
            TongueGlass x = Due.court(n, 1);
            due.fault(x, 1, "at 0 glass " + n + " out;", 2, 11);
            due.fault(x, 1, "at 0 glass 9999 out;", 2, 11);
            if (n > 0) {
                due.lines(x, 1, "at 0 glass " + (n - 1) + " out;at 0 glass 0 out;", 2);
            }
        }
    }

    private static void witnessesThatThereAre() {
        for (int n = 0; n <= 12; n++) {
            TongueGlass x = Due.court(1, n);
            due.fault(x, 1, "at 0 glass 0 under " + n + ";", 2, 19);
            due.fault(x, 3, "witness " + n + " keeps 1;", 2, 8);
            due.fault(x, 3, "witness 9999 keeps 1;", 2, 8);
            if (n > 0) {
                due.lines(x, 1, "at 0 glass 0 under " + (n - 1) + ";at 0 glass 0 under 0;", 2);
                due.lines(x, 3, "witness " + (n - 1) + " keeps 1;witness 0 keeps 1;", 2);
            }
        }
    }

    private static void topicsOfTexts() {
        for (int v : Due.bounds(0, 15)) {
            fine(1, "at 0 glass 0 say " + v + ";", 1);
            fine(2, "topic " + v + " near 7 1;topic 7 near " + v + " 1;", 2);
            fine(3, "witness 0 keeps " + v + ";witness 0 keeps 7 " + v + ";", 2);
        }
        for (int v : new int[] {16, 17, 9999}) {
            faulty(1, "at 0 glass 0 say " + v + ";", 2, 17);
            faulty(2, "topic " + v + " near 7 1;", 2, 6);
            faulty(2, "topic 7 near " + v + " 1;", 2, 13);
            faulty(3, "witness 0 keeps " + v + ";", 2, 16);
            faulty(3, "witness 0 keeps 7 " + v + ";", 2, 18);
        }
    }

    private static void nearFromOneToNine() {
        for (int v : Due.bounds(1, 9)) {
            TongueGlass x = court();
            due.lines(x, 2, "topic 3 near 4 " + v + ";", 1);
            due.is("near(4, 3)", x.near(4, 3), v);
        }
        for (String v : new String[] {"0", "0000", "10", "11", "9999"}) {
            faulty(2, "topic 3 near 4 " + v + ";", 2, 15);
        }
        faulty(2, "topic 3 near 4;", 1, 14);
        faulty(2, "topic 3 near 4 5 6;", 1, 17);
    }

    private static void unlikeTopicsOfNear() {
        for (int v = 0; v < 16; v++) {
            int place = v < 10 ? 13 : 14;
            faulty(2, "topic " + v + " near " + v + " 5;", 2, place);
            faulty(2, "topic " + v + " near " + v, 2, place);
            faulty(2, "topic " + v + " near 00" + v + " 99;", 2, place);
        }
        fine(2, "topic 1 near 2 5;topic 1 near 2 5;topic 2 near 1 5;", 3);
    }

    private static void nearEitherWayTheGreatest() {
        String[] orders = {"topic 1 near 2 5;topic 2 near 1 3;", "topic 2 near 1 3;topic 1 near 2 5;",
            "topic 2 near 1 5;topic 2 near 1 4;", "topic 1 near 2 1;topic 1 near 2 5;topic 2 near 1 2;"};
        for (String text : orders) {
            TongueGlass x = court();
            Due.text(x, 2, text);
            due.is("near(1, 2) by " + text, x.near(1, 2), 5);
            due.is("near(2, 1) by " + text, x.near(2, 1), 5);
        }
    }

    private static void aPartByZero() {
        for (String zero : new String[] {"0", "00", "0000"}) {
            faulty(0, "warms 1/" + zero + ";", 2, 8);
            faulty(0, "warms near / " + zero + " xyz", 2, 13);
            faulty(0, "warms 1*2/3/" + zero + ";", 2, 12);
            faulty(0, "warms 1 when 2/" + zero + "=1;", 2, 15);
            faulty(0, "warms 1 when 2=2/" + zero + ";", 2, 17);
        }
        told("warms 7/1;", 5, 7);
        told("warms 9999/9999;", 5, 1);
        told("warms 9998/9999;", 5, 0);
        fine(0, "warms 0/1;warms 0*0;warms 0-0;", 3);
        faulty(0, "warms 1/near;", 1, 8);
        faulty(0, "warms 1/;", 1, 8);
    }

    private static void oneToSixOfKeeps() {
        faulty(3, "witness 0 keeps;", 1, 15);
        int set = 0;
        StringBuilder text = new StringBuilder("witness 0 keeps");
        for (int t = 15; t >= 10; t--) {
            text.append(' ').append(t);
            set |= 1 << t;
            TongueGlass x = court();
            due.lines(x, 3, text + ";", 1);
            due.is("KEEPS by " + text, x.who(0, 1), set);
        }
        faulty(3, text + " 9;", 3, text.length() + 1);
        faulty(3, text + " 15;", 3, text.length() + 1);
        faulty(3, text + " 9 9 xyz", 3, text.length() + 1);
        fine(3, "witness 0 keeps 3 3 3 3 3 3;", 1);
        faulty(3, "witness 0 keeps 3 3 3 3 3 3 3;", 3, 28);
        fine(3, "witness 0 keeps 0 1 2 3 4 5;witness 0 keeps 0 1 2 3 4 5;", 2);
    }

    private static void keepsOfTheLastLine() {
        TongueGlass x = Due.court(1, 12);
        due.lines(x, 3, "witness 11 keeps 1;witness 0 keeps 2;witness 11 keeps 3;witness 5 keeps 4;", 4);
        int[] want = {4, 0, 0, 0, 0, 16, 0, 0, 0, 0, 0, 8};
        for (int w = 0; w < 12; w++) {
            due.is("KEEPS of " + w, x.who(w, 1), want[w]);
        }
        due.lines(x, 3, "witness 1 keeps 9;", 1);
        for (int w = 0; w < 12; w++) {
            due.is("all others keep nothing back: " + w, x.who(w, 1), w == 1 ? 512 : 0);
        }
    }

    // ---- the depth

    private static void eightAreOpen() {
        for (int brackets = 0; brackets <= 8; brackets++) {
            String open = Due.times("not ", 8 - brackets) + Due.times("(", brackets);
            String close = Due.times(")", brackets);
            String mixed = Due.times("(", brackets) + Due.times("not ", 8 - brackets);
            so(open + "1=1" + close, brackets % 2 == 0);
            so(mixed + "1=1" + close, brackets % 2 == 0);
            faulty(0, "warms 1 when " + open + "not 1=1" + close + ";", 3, 13 + open.length());
            faulty(0, "warms 1 when " + open + "(1=1)" + close + ";", 3, 13 + open.length());
            faulty(0, "warms 1 when " + mixed + "not 1=1" + close + ";", 3, 13 + mixed.length());
            faulty(0, "warms 1 when " + mixed + "(1=1)" + close + ";", 3, 13 + mixed.length());
        }
        faulty(0, "warms 1 when " + Due.times("(", 300), 3, 21);
        faulty(0, "warms 1 when " + Due.times("not(", 90), 3, 29);
    }

    private static void closedOnesAreNotOpen() {
        so(Due.times("not 1=2 and ", 20) + "1=1", true);
        so(Due.times("(1=2)or ", 40) + "(1=1)", true);
        so(Due.times("(", 7) + "(1=1)or(1=2)and(1=2)" + Due.times(")", 7), true);
        so(Due.times("(", 7) + "not 1=1 or not 1=2" + Due.times(")", 7), true);
        so(Due.times("not ", 7) + "(1=1)and not 1=2 or(1=2)", false);
        so("((((((((1=1))))))))and((((((((1=1))))))))", true);
        so("not not not not not not not not 1=1 and not not not not not not not not 1=1", true);
        faulty(0, "warms 1 when ((((((((1=1))))))))and(((((((((1=1", 3, 43);
        String seven = Due.times("(", 7);
        faulty(0, "warms 1 when " + seven + "not 1=1 and not(1=1)", 3, 35);
        faulty(0, "warms 1 when " + seven + "(1=1)or(not 1=1)", 3, 28);
    }

    /** or, and, not by what stands on each side; and binds closer, brackets closest. */
    private static void orAndNot() {
        String[] is = {"1=2", "1=1"};
        for (int a = 0; a < 2; a++) {
            for (int b = 0; b < 2; b++) {
                so(is[a] + " or " + is[b], a + b > 0);
                so(is[a] + " and " + is[b], a + b > 1);
                so("not " + is[a] + " or " + is[b], a == 0 || b == 1);
                so("not " + is[a] + " and " + is[b], a == 0 && b == 1);
                so("not(" + is[a] + " and " + is[b] + ")", a + b < 2);
                so(is[a] + " and not " + is[b], a > b);
                for (int c = 0; c < 2; c++) {
                    so(is[a] + " or " + is[b] + " or " + is[c], a + b + c > 0);
                    so(is[a] + " and " + is[b] + " and " + is[c], a + b + c > 2);
                    so(is[a] + " or " + is[b] + " and " + is[c], a == 1 || b + c > 1);
                    so(is[a] + " and " + is[b] + " or " + is[c], a + b > 1 || c == 1);
                    so(is[a] + " and(" + is[b] + " or " + is[c] + ")", a == 1 && b + c > 0);
                    so("(" + is[a] + " or " + is[b] + ")and " + is[c], a + b > 0 && c == 1);
                    so(is[a] + " or(" + is[b] + " and " + is[c] + ")", a == 1 || b + c > 1);
                    so(is[a] + " and(" + is[b] + " and " + is[c] + ")", a + b + c > 2);
                }
            }
        }
    }

    private static void lessAlikeAndMore() {
        for (int a = 4; a <= 6; a++) {
            so(a + "<5", a == 4);
            so(a + "=5", a == 5);
            so(a + ">5", a == 6);
            so("not " + a + "<5", a != 4);
            so("not " + a + "=5", a != 5);
            so("not " + a + ">5", a != 6);
            so("1=1 and " + a + "<5", a == 4);
            so("1=1 and " + a + ">5", a == 6);
            so("0-" + a + "<0-5", a == 6);
            so(a + "-5<0", a == 4);
        }
    }

    // ---- which FAULT

    private static void theFirstByItsPlace() {
        faulty(0, "warms 1/0; xyz", 2, 8);
        faulty(0, "xyz warms 1/0;", 1, 0);
        faulty(1, "at 1000 glass 9 say 16", 2, 3);
        faulty(1, "at 0 glass 9 say 16", 2, 11);
        faulty(1, "at 0 glass 0 say 16", 2, 17);
        faulty(1, "at 0 glas 9 say 16;", 1, 5);
        faulty(2, "topic 16 near 16 0", 2, 6);
        faulty(2, "topic 5 near 5 0", 2, 13);
        faulty(2, "topic 5 near 6 0", 2, 15);
        faulty(3, "witness 5 keeps 16", 2, 8);
        faulty(3, "witness 0 keeps 1 2 3 4 5 16 6 7", 2, 26);
        faulty(3, "witness 0 keeps 1 2 3 4 5 6 7 16", 3, 28);
        faulty(0, "warms 1 when (((((((((1/0=1", 3, 21);
        faulty(0, "warms 1/0 when (((((((((1=1", 2, 8);
        faulty(0, Due.times("warms 1;", 15) + "warms 1/0;warms 1;", 2, 128);
    }

    private static void atOnePlaceTheLeast() {
        faulty(3, "witness 0 keeps 1 2 3 4 5 6 16;", 2, 28);
        faulty(3, "witness 0 keeps 1 2 3 4 5 6 9999;", 2, 28);
        faulty(3, "witness 0 keeps 1 2 3 4 5 6 10000;", 1, 28);
        faulty(2, "topic 16 near 16 5;", 2, 6);
        faulty(3, "witness 0 keeps 1 2 3 4 5 6 near;", 1, 28);
        faulty(0, "warms 1 when ((((((((;", 1, 21);
        faulty(0, "warms 1 when (((((((()", 1, 21);
        faulty(0, "warms 1 when ((((((((", 1, 21);
        faulty(0, "warms (", 1, 6);
        faulty(0, "warms not", 1, 6);
        faulty(0, "warms 1 when 1=((((((((((1", 1, 15);
    }

    private static void whatCannotStandInALaw() {
        faulty(0, "warms;", 1, 5);
        faulty(0, "warms+1;", 1, 5);
        faulty(0, "warms-1;", 1, 5);
        faulty(0, "warms 1++1;", 1, 8);
        faulty(0, "warms 1**1;", 1, 8);
        faulty(0, "warms (1);", 1, 6);
        faulty(0, "warms 1*(2);", 1, 8);
        faulty(0, "warms 1=1;", 1, 7);
        faulty(0, "warms 1 or 1;", 1, 8);
        faulty(0, "warms 1 when;", 1, 12);
        faulty(0, "warms 1 when 1;", 1, 14);
        faulty(0, "warms 1 when 1 and 1=1;", 1, 15);
        faulty(0, "warms 1 when 1=1=1;", 1, 16);
        faulty(0, "warms 1 when 1<=1;", 1, 15);
        faulty(0, "warms 1 when ();", 1, 14);
        faulty(0, "warms 1 when (1);", 1, 15);
        faulty(0, "warms 1 when (1=1;", 1, 17);
        faulty(0, "warms 1 when 1=1);", 1, 16);
        faulty(0, "warms 1 when (1=1)=1;", 1, 18);
        faulty(0, "warms 1 when (1)=1;", 1, 15);
        faulty(0, "warms 1 when or 1=1;", 1, 13);
        faulty(0, "warms 1 when and 1=1;", 1, 13);
        faulty(0, "warms 1 when 1=1 or;", 1, 19);
        faulty(0, "warms 1 when 1=1 and;", 1, 20);
        faulty(0, "warms 1 when 1=1 and and 1=1;", 1, 21);
        faulty(0, "warms 1 when 1=1 when 1=1;", 1, 17);
        faulty(0, "warms 1 when 1=1 warms 1;", 1, 17);
        faulty(0, "warms 1 cools 1;", 1, 8);
        faulty(0, "warms 1;;", 1, 8);
        faulty(0, ";", 1, 0);
        faulty(0, "1;", 1, 0);
    }

    private static void whatCannotStandInTheOthers() {
        faulty(1, "at;", 1, 2);
        faulty(1, "at 0;", 1, 4);
        faulty(1, "at 0 glass;", 1, 10);
        faulty(1, "at 0 glass 0;", 1, 12);
        faulty(1, "at 0 glass 0 say;", 1, 16);
        faulty(1, "at 0 glass 0 under;", 1, 18);
        for (String deed : new String[] {"quiet", "shake", "wipe", "out"}) {
            fine(1, "at 0 glass 0 " + deed + ";", 1);
            faulty(1, "at 0 glass 0 " + deed + " 0;", 1, 14 + deed.length());
        }
        faulty(1, "at 0 glass 0 say 1 2;", 1, 19);
        faulty(1, "at 0 glass 0 say quiet;", 1, 17);
        faulty(1, "at 0 glass 0 quiet shake;", 1, 19);
        faulty(1, "at 0 glass 0 at;", 1, 13);
        faulty(1, "at 0 glass 0 glass;", 1, 13);
        faulty(1, "at 0 say 1;", 1, 5);
        faulty(1, "glass 0 at 0 out;", 1, 0);
        faulty(2, "topic;", 1, 5);
        faulty(2, "topic 1;", 1, 7);
        faulty(2, "topic 1 near;", 1, 12);
        faulty(2, "topic 1 2 3;", 1, 8);
        faulty(2, "topic near 1 2;", 1, 6);
        faulty(2, "topic 1 topic 2 3;", 1, 8);
        faulty(2, "near 1 topic 2 3;", 1, 0);
        faulty(3, "witness;", 1, 7);
        faulty(3, "witness 0;", 1, 9);
        faulty(3, "witness 0 1;", 1, 10);
        faulty(3, "witness 0 witness 1;", 1, 10);
        faulty(3, "witness 0 keeps keeps 1;", 1, 16);
        faulty(3, "witness 0 keeps 1 keeps 2;", 1, 18);
        faulty(3, "keeps 1;", 1, 0);
    }

    // ---- what THE LAW tells

    private static void toldIsHeld() {
        String[] words = {"warms", "slips", "cools"};
        int[] most = {99, 1000, 99};
        for (int i = 0; i < 3; i++) {
            int what = 5 + i;
            told(words[i] + " 0-1;", what, 0);
            told(words[i] + " 0-9999*9999;", what, 0);
            told(words[i] + " 0;", what, 0);
            told(words[i] + " 1;", what, 1);
            told(words[i] + " " + (most[i] - 1) + ";", what, most[i] - 1);
            told(words[i] + " " + most[i] + ";", what, most[i]);
            told(words[i] + " " + (most[i] + 1) + ";", what, most[i]);
            told(words[i] + " 9999*9999;", what, most[i]);
        }
    }

    private static void toldWithoutALine() {
        int[][] nearColdWarms = {{10, 0, 30}, {10, 9, 12}, {4, 5, 2}, {4, 6, 0}, {4, 9, 0}, {0, 0, 0}, {0, 9, 0}};
        for (int[] v : nearColdWarms) {
            TongueGlass x = court();
            Due.text(x, 2, "topic 3 near 4 4;");
            Due.text(x, 3, "witness 0 keeps 3;");
            x.set(2, 0, v[1]);
            x.act(0, 0, 0);
            x.act(2, 0, v[0] == 10 ? 3 : v[0] == 4 ? 4 : 5);
            due.is("NEARNESS", x.of(0, 8), v[0]);
            due.is("warms with near " + v[0] + ", cold " + v[1], x.of(0, 5), v[2]);
            due.is("slips", x.of(0, 6), 0);
            due.is("cools", x.of(0, 7), 5);
        }
        told("slips 7;", 5, 0);
        told("slips 7;", 7, 5);
        told("cools 7 when 1=2;", 7, 5);
        told("slips 7 when 1=2;slips 8 when 2<1;", 6, 0);
    }

    private static void toldByTheFirstLine() {
        told("warms 1;warms 2;", 5, 1);
        told("warms 1 when 1=2;warms 2;", 5, 2);
        told("cools 9;slips 8;warms 1 when 1=2;slips 7;warms 2 when 1=1;warms 3;", 5, 2);
        told("cools 9;slips 8;warms 1 when 1=2;slips 7;warms 2 when 1=1;warms 3;", 6, 8);
        told("warms 0;warms 2;", 5, 0);
        told("warms 0-5;warms 2;", 5, 0);
        told("cools 0 when 1=1;", 7, 0);
    }

    private static void intsWrap() {
        told("warms 9999*9999*21;", 5, 99);
        told("warms 9999*9999*22;", 5, 0);
        told("warms 9999*9999*21+9999*9999*21;", 5, 0);
        told("warms 0-9999*9999*21-9999*9999*21;", 5, 99);
        told("warms 0-9999*9999*21;", 5, 0);
        told("warms 8192*8192*64;", 5, 0);
        told("warms 8192*8192*64+5;", 5, 5);
        told("warms 8192*8192*32-1-8192*8192*31-9999*6711-5500;", 5, 74);
        so("9999*9999*21<9999*9999*22", false);
        so("9999*9999*22<0", true);
        so("8192*8192*32=0-8192*8192*32", true);
        so("8192*8192*32-1>8192*8192*32", true);
    }

    private static void partsGoTowardsZero() {
        int v = 9999 * 9999 * 30;
        int parted = v / 9999;
        due.is("a negative product, to be parted", v < 0 && v % 9999 != 0, true);
        int up = -parted;
        told("slips 9999*" + up / 9999 + "+" + up % 9999 + "+9999*9999*30/9999+5;", 6, 5);
        told("slips 9999*9999*30/9999+9999*" + up / 9999 + "+" + up % 9999 + "+7;", 6, 7);
        told("slips 7/2;", 6, 3);
        told("slips 1/2;", 6, 0);
        told("slips 9-7/2;", 6, 6);
    }

    private static void name(TongueGlass x, int glass, String name, int want) {
        Due.text(x, 0, "slips 1 when " + name + "=" + want + ";slips 9;");
        due.is(name + " is " + want, x.of(glass, 6), 1);
    }

    private static void namesAtTheirEdges() {
        TongueGlass x = Due.court(6, 12);
        Due.text(x, 3, "witness 11 keeps 15 14 13 12 11 10;");
        Due.text(x, 2, "topic 9 near 15 9;topic 8 near 15 1;");
        name(x, 5, "glass", 5);
        name(x, 0, "glass", 0);
        x.act(0, 5, 11);
        name(x, 5, "keeps", 6);
        name(x, 5, "cold", 0);
        x.set(2, 11, 9);
        name(x, 5, "cold", 9);
        name(x, 5, "reads", 300);
        x.set(1, 5, 420);
        name(x, 5, "reads", 420);
        name(x, 5, "learnt", 0);
        x.set(0, 5, 99);
        name(x, 5, "learnt", 99);
        name(x, 5, "said", 0);
        name(x, 5, "near", 0);
        int[] topics = {0, 8, 9, 15};
        int[] near = {0, 1, 9, 10};
        for (int i = 0; i < 4; i++) {
            x.act(2, 5, topics[i]);
            name(x, 5, "said", 1);
            name(x, 5, "near", near[i]);
        }
        name(x, 5, "called", 1);
        name(x, 5, "off", 0);
        Due.text(x, 0, "warms 1;");
        x.minutes(1);
        name(x, 5, "off", 1);
        name(x, 5, "called", 0);
        x.act(0, 5, 11);
        name(x, 5, "called", 2);
        name(x, 5, "time", 1);
        for (int i = 0; i < 166; i++) {
            x.minutes(60);
        }
        x.minutes(38);
        name(x, 5, "time", 9999);
    }

    private static void namesWithoutAWitness() {
        TongueGlass x = court();
        Due.text(x, 3, "witness 0 keeps 3;");
        x.set(2, 0, 7);
        x.set(2, 1, 7);
        x.act(0, 0, 0);
        x.act(1, 0, 0);
        x.act(2, 0, 3);
        for (String name : new String[] {"near", "cold", "keeps", "called"}) {
            name(x, 0, name, 0);
        }
        name(x, 0, "said", 1);
        Due.text(x, 0, "");
        due.is("warms", x.of(0, 5), 0);
    }
}
