/** Promises 8 to 11 and 14: the TAPE, the four TEXTS and their FAULTS; what THE LAW tells by promise 12. */
public final class TextTest {
    private static final Due due = new Due();

    public static void main(String[] args) {
        theTape();
        noSuchText();
        tokens();
        lawFaults();
        lawDepth();
        lawValues();
        lawNames();
        walkFaults();
        nearText();
        keepsText();
        linesOfEach();
        due.tell();
    }

    private static TongueGlass court() {
        TongueGlass x = new TongueGlass();
        x.glass(0);
        x.glass(0);
        x.witness(3);
        x.witness(0);
        return x;
    }

    private static void theTape() {
        TongueGlass x = new TongueGlass();
        due.is("end(0)", x.end(0), true);
        due.is("end(1)", x.end(1), false);
        due.is("end(-1)", x.end(-1), false);
        for (int i = 1; i <= 20; i++) {
            due.is("feed", x.feed(0x20202020, 0x20202020, 0x20202020, 0x20202020, 0x20202020), 20 * i);
        }
        due.is("feed beyond 400", x.feed(0, 0, 0, 0, 0), -1);
        due.is("end(401)", x.end(401), false);
        due.is("end(400)", x.end(400), true);
        due.is("end(381)", x.end(381), true);
        due.is("feed beyond 400", x.feed(0, 0, 0, 0, 0), -1);
        due.is("end(380)", x.end(380), true);
        due.is("feed", x.feed(0x20202020, 0x0a0a0a0a, 0x20202020, 0x20202020, 0x203b2020), 400);
        due.is("text(0)", x.text(0), -1);
        due.is("the highest byte first", x.fault(1), 397);
        due.is("the TAPE is empty then", x.end(1), false);
        due.is("feed with the sign bit", x.feed(-1, -1, -1, -1, -1), 20);
        x.text(0);
        due.is("byte 255 can't stand there", x.fault(1), 0);
    }

    private static void noSuchText() {
        TongueGlass x = court();
        for (int k : new int[] {-1, 4, Integer.MIN_VALUE, Integer.MAX_VALUE}) {
            due.fault(x, 0, "warms", 1, 5);
            Due.feed(x, "warms 1;");
            due.is("text(" + k + ")", x.text(k), -1);
            due.is("fault(0)", x.fault(0), 0);
            due.is("fault(1)", x.fault(1), -1);
            due.is("the TAPE is empty", x.end(1), false);
        }
    }

    private static void tokens() {
        TongueGlass x = court();
        due.lines(x, 0, "", 0);
        due.lines(x, 0, " \n ", 0);
        due.lines(x, 0, "warms1+2;cools0009;", 2);
        due.is("0009", x.of(0, 7), 9);
        due.lines(x, 0, "\nwarms\n1 ; ", 1);
        due.lines(x, 0, "warms 9999;", 1);
        due.fault(x, 0, "warms 10000;", 1, 6);
        due.fault(x, 0, "warms 00000;", 1, 6);
        due.fault(x, 0, "Warms 1;", 1, 0);
        due.fault(x, 0, "warm 1;", 1, 0);
        due.fault(x, 0, "warmss 1;", 1, 0);
        due.fault(x, 0, "warmscools 1;", 1, 0);
        for (char c : new char[] {'a', 'z', 'A', 'Z'}) {
            due.fault(x, 0, "warms" + c + " 1;", 1, 0);
        }
        for (char c : new char[] {'a' - 1, 'z' + 1, 'A' - 1, 'Z' + 1, '0' - 1, '9' + 1, 0, 127, 255}) {
            due.fault(x, 0, "warms" + c + " 1;", 1, 5);
        }
        due.fault(x, 0, Due.times(";", 400), 1, 0);
        due.fault(x, 0, "warms " + Due.times("1+", 197), 1, 400);
        due.lines(x, 0, "warms " + Due.times("1+", 196) + "1;", 1);
        due.is("197 times 1, held", x.of(0, 5), 99);
        due.lines(x, 0, "cools 1" + Due.times("*1", 196) + ";", 1);
        due.is("1", x.of(0, 7), 1);
        due.fault(x, 0, "warms\t1;", 1, 5);
        due.fault(x, 0, "warms 1;\r", 1, 8);
        due.fault(x, 0, "warms 1.", 1, 7);
        due.fault(x, 0, "warms 1,2;", 1, 7);
        due.fault(x, 0, "warms 1:", 1, 7);
        due.fault(x, 0, "warms 1" + (char) 233 + ";", 1, 7);
        due.fault(x, 0, "warms 1   ", 1, 10);
        due.fault(x, 0, "warms 1;;", 1, 8);
        due.fault(x, 0, ";", 1, 0);
        due.fault(x, 0, "at 1;", 1, 0);
        due.fault(x, 0, "warms say;", 1, 6);
        due.fault(x, 0, "warms warms;", 1, 6);
        due.fault(x, 0, "warms 1 2;", 1, 8);
        due.fault(x, 0, "warms 1 near;", 1, 8);
    }

    private static void lawFaults() {
        TongueGlass x = court();
        due.lines(x, 0, "warms 7;", 1);
        due.fault(x, 0, "cools 1; warms -1;", 1, 15);
        due.fault(x, 0, "warms (1);", 1, 6);
        due.fault(x, 0, "warms 1+;", 1, 8);
        due.fault(x, 0, "warms 1/near;", 1, 8);
        due.fault(x, 0, "warms 1/0;", 2, 8);
        due.fault(x, 0, "warms 1/ 0000;", 2, 9);
        due.fault(x, 0, "warms 1/0 0", 2, 8);
        due.fault(x, 0, "warms 1*2/3*;", 1, 12);
        due.fault(x, 0, "warms 1 when;", 1, 12);
        due.fault(x, 0, "warms 1 when 1;", 1, 14);
        due.fault(x, 0, "warms 1 when (1);", 1, 15);
        due.fault(x, 0, "warms 1 when 1<2<3;", 1, 16);
        due.fault(x, 0, "warms 1 when 1<;", 1, 15);
        due.fault(x, 0, "warms 1 when (1<2;", 1, 17);
        due.fault(x, 0, "warms 1 when 1<2);", 1, 16);
        due.fault(x, 0, "warms 1 when (1<2)", 1, 18);
        due.fault(x, 0, "warms 1 when 1<2 or;", 1, 19);
        due.fault(x, 0, "warms 1 when 1<2 not 1<2;", 1, 17);
        due.fault(x, 0, "warms 1 when not;", 1, 16);
        due.fault(x, 0, "warms 1 when 1<2 when 1<2;", 1, 17);
        due.fault(x, 0, "warms 1 when (1<2)+1>0;", 1, 18);
        due.is("THE LAW stays as it was", x.of(0, 5), 7);
    }

    private static void lawDepth() {
        TongueGlass x = court();
        due.lines(x, 0, "warms 1 when " + Due.times("(", 8) + "1=1" + Due.times(")", 8) + ";", 1);
        due.is("warms", x.of(0, 5), 1);
        due.fault(x, 0, "warms 1 when " + Due.times("(", 9) + "1=1" + Due.times(")", 9) + ";", 3, 21);
        due.lines(x, 0, "warms 2 when " + Due.times("not ", 8) + "1=1;", 1);
        due.is("warms", x.of(0, 5), 2);
        due.fault(x, 0, "warms 1 when " + Due.times("not ", 9) + "1=1;", 3, 45);
        due.fault(x, 0, "warms 1 when " + Due.times("not(", 4) + "not 1=1" + Due.times(")", 4) + ";", 3, 29);
        due.lines(x, 0, "warms 3 when " + Due.times("not(", 4) + "1=1" + Due.times(")", 4) + " and " + Due.times("not(", 4) + "1=1"
            + Due.times(")", 4) + " or " + Due.times("(", 8) + "2<1" + Due.times(")", 8) + ";", 1);
        due.is("warms", x.of(0, 5), 3);
        due.lines(x, 0, "warms 4 when (" + Due.times("not ", 7) + "1=1 or " + Due.times("not ", 7) + "1=2);", 1);
        due.is("warms", x.of(0, 5), 4);
        due.lines(x, 0, "warms 6 when " + Due.times("1=2 or 1=1 and (", 8) + "0*2+3*4+1=1+2*6" + Due.times(")", 8) + ";", 1);
        due.is("all that can be held at once", x.of(0, 5), 6);
        due.fault(x, 0, "warms 1 when " + Due.times("(", 8) + ")", 1, 21);
    }

    private static void law(String e, int warms) {
        TongueGlass x = court();
        due.lines(x, 0, "warms " + e + ";", 1);
        due.is("warms " + e, x.of(1, 5), warms);
    }

    private static void lawValues() {
        law("2+3*4", 14);
        law("2*3+4", 10);
        law("20-3-4", 13);
        law("20-3*4-5", 3);
        law("1+2*3*4+5", 30);
        law("7*5/2", 17);
        law("7/2*5", 15);
        law("90/4/3", 7);
        law("10+7/2-1*3", 10);
        law("0-7/2+9", 6);
        law("50+glass*7-70/3", 34);
        law("3-5*7/2+20", 6);
        law("0*near-7+10", 3);
        law("9999*9999*9999/9999-1", Math.max(0, Math.min(99, 9999 * 9999 * 9999 / 9999 - 1)));
        law("1 when 9999*9999*9999<0", 9999 * 9999 * 9999 < 0 ? 1 : 0);
        law("1 when 9999*9999*30<0", 9999 * 9999 * 30 < 0 ? 1 : 0);
        law("5 when (glass-8)*1=1 or 1=1".replace("(glass-8)*1=1", "glass-8=0-7"), 5);
        law("5 when glass*0-8+1=0-7", 5);
        law("5 when 1=2 and 1=2 or 1=1", 5);
        law("5 when 1=1 or 1=2 and 1=2", 5);
        law("5 when (1=1 or 1=2) and 1=2", 0);
        law("5 when 1=2 or 1=1 and 1=1 or 1=2", 5);
        law("5 when 1=2 or 1=2 or 1=1", 5);
        law("5 when not 1=1 or 1=1", 5);
        law("5 when not (1=1 or 1=1)", 0);
        law("5 when not 1=2 and 1=2", 0);
        law("5 when not not 1=1", 5);
        law("5 when 2>1", 5);
        law("5 when 1>1", 0);
        law("5 when 1<1", 0);
        law("5 when 1+1=2*1", 5);
        TongueGlass x = court();
        due.lines(x, 0, "cools 1 when 1=2; slips 8; cools 2 when 1=1; cools 3; warms 4 when 1=2;", 5);
        due.is("the first line that is so", x.of(0, 7), 2);
        due.is("slips", x.of(0, 6), 8);
        due.is("none is so: as without", x.of(0, 5), 0);
        due.lines(x, 0, "cools 0-7/2+4;", 1);
        due.is("-7 is not parted, 7 is", x.of(0, 7), 1);
        due.lines(x, 0, "cools 50+glass*0-9;", 1);
        due.is("cools", x.of(0, 7), 41);
    }

    private static void name(TongueGlass x, int glass, String name, int is) {
        due.lines(x, 0, "slips " + name + ";", 1);
        due.is(name + " of glass " + glass, x.of(glass, 6), is);
    }

    private static void lawNames() {
        TongueGlass x = court();
        due.lines(x, 3, "witness 0 keeps 1 2 9;", 1);
        due.lines(x, 2, "topic 3 near 9 6;", 1);
        x.set(0, 1, 44);
        x.set(1, 1, 377);
        x.act(2, 1, 3);
        String[] names = {"near", "cold", "reads", "learnt", "said", "keeps", "called", "off", "glass", "time"};
        int[] without = {0, 0, 377, 44, 1, 0, 0, 0, 1, 0};
        for (int i = 0; i < names.length; i++) {
            name(x, 1, names[i], without[i]);
        }
        x.act(0, 1, 0);
        x.act(1, 1, 0);
        x.act(0, 1, 0);
        int[] with = {6, 3, 377, 44, 1, 3, 2, 0, 1, 0};
        for (int i = 0; i < names.length; i++) {
            name(x, 1, names[i], with[i]);
        }
        due.is("without a line", Due.text(x, 0, ""), 0);
        due.is("3 times near less 2 times cold", x.of(1, 5), 12);
        due.is("5", x.of(1, 7), 5);
        due.is("0", x.of(1, 6), 0);
        due.lines(x, 0, "warms 99;", 1);
        x.minutes(1);
        int[] then = {0, 0, 420, 45, 0, 0, 0, 1, 1, 1};
        for (int i = 0; i < names.length; i++) {
            name(x, 1, names[i], then[i]);
        }
    }

    private static void walkFaults() {
        TongueGlass x = court();
        due.lines(x, 1, "at 999 glass 1 under 1;at 0 glass 0 say 15;", 2);
        due.fault(x, 1, "at 1000 glass 0 out;", 2, 3);
        due.fault(x, 1, "at 10000 glass 0 out;", 1, 3);
        due.fault(x, 1, "at 0 glass 2 out;", 2, 11);
        due.fault(x, 1, "at 0 glass 0 under 2;", 2, 19);
        due.fault(x, 1, "at 0 glass 0 say 16;", 2, 17);
        due.fault(x, 1, "at 0 glass 0 say;", 1, 16);
        due.fault(x, 1, "at 0 glass 0 out 1;", 1, 17);
        due.fault(x, 1, "at 0 glass 0 quiet", 1, 18);
        due.fault(x, 1, "at 0 glass 0 at;", 1, 13);
        due.fault(x, 1, "at 0 glass 0 glass;", 1, 13);
        due.fault(x, 1, "at 0 glass 0;", 1, 12);
        due.fault(x, 1, "at 0 say 0;", 1, 5);
        due.fault(x, 1, "at glass;", 1, 3);
        due.fault(x, 1, "glass 0;", 1, 0);
        due.fault(x, 1, "at 2000 glass 9 say 99", 2, 3);
        due.fault(x, 1, "at 0 glass 0 when;", 1, 13);
        due.fault(new TongueGlass(), 1, "at 0 glass 0 out;", 2, 11);
    }

    private static void nearText() {
        TongueGlass x = court();
        due.lines(x, 2, "topic 1 near 2 5;topic 2 near 1 3;topic 15 near 0 9;topic 0 near 15 1;topic 1 near 2 6;", 5);
        due.is("near(1, 2)", x.near(1, 2), 6);
        due.is("near(2, 1)", x.near(2, 1), 6);
        due.is("near(0, 15)", x.near(0, 15), 9);
        due.is("near(3, 3)", x.near(3, 3), 0);
        due.is("near(1, 3)", x.near(1, 3), 0);
        for (int v : new int[] {-1, 16, Integer.MIN_VALUE, Integer.MAX_VALUE}) {
            due.is("near(" + v + ", 0)", x.near(v, 0), -1);
            due.is("near(0, " + v + ")", x.near(0, v), -1);
        }
        due.fault(x, 2, "topic 1 near 1 5;", 2, 13);
        due.fault(x, 2, "topic 16 near 1 5;", 2, 6);
        due.fault(x, 2, "topic 1 near 16 5;", 2, 13);
        due.fault(x, 2, "topic 1 near 2 0;", 2, 15);
        due.fault(x, 2, "topic 1 near 2 10;", 2, 15);
        due.fault(x, 2, "topic 1 near 2;", 1, 14);
        due.fault(x, 2, "topic 1 keeps 2 3;", 1, 8);
        due.fault(x, 2, "topic 4 near 5 5;topic", 1, 22);
        due.is("NEAR stays as it was", x.near(1, 2), 6);
        due.is("and takes nothing", x.near(4, 5), 0);
        due.lines(x, 2, "", 0);
        due.is("near(1, 2)", x.near(1, 2), 0);
    }

    private static void keepsText() {
        TongueGlass x = court();
        due.lines(x, 3, "witness 0 keeps 0 1 2 3 4 5;witness 1 keeps 7;witness 0 keeps 8;", 3);
        due.is("of several lines the last", x.who(0, 1), 256);
        due.is("the other", x.who(1, 1), 128);
        due.fault(x, 3, "witness 0 keeps 0 1 2 3 4 5 6;", 3, 28);
        due.fault(x, 3, "witness 0 keeps 0 1 2 3 4 5 5;", 3, 28);
        due.fault(x, 3, "witness 0 keeps 1 1 1 1 1 1 1;", 3, 28);
        due.fault(x, 3, "witness 0 keeps 0 1 2 3 4 5 16;", 2, 28);
        due.fault(x, 3, "witness 0 keeps 0 1 2 3 4 5 12345;", 1, 28);
        due.fault(x, 3, "witness 0 keeps 0 1 0 16;", 2, 22);
        due.fault(x, 3, "witness 0 keeps 1 2 1 ne", 1, 22);
        due.fault(x, 3, "witness 0 keeps;", 1, 15);
        due.fault(x, 3, "witness 2 keeps 1;", 2, 8);
        due.fault(x, 3, "witness 0 near 1;", 1, 10);
        due.fault(x, 3, "witness 0 keeps 1 witness 1;", 1, 18);
        due.fault(x, 3, "witness 0 keeps 1", 1, 17);
        due.is("KEEPS stays as it was", x.who(0, 1), 256);
        due.lines(x, 3, "witness 1 keeps 3;", 1);
        due.is("all others keep nothing back", x.who(0, 1), 0);
        due.is("the other", x.who(1, 1), 8);
        x.witness(0);
        due.is("a new one keeps nothing back", x.who(2, 1), 0);
        sameTopicAgain(x);
    }

    /** The same TOPIC again is a FAULT of NEAR alone; KEEPS is a set, so that it counts once. */
    private static void sameTopicAgain(TongueGlass x) {
        due.lines(x, 3, "witness 0 keeps 4 2 4;", 1);
        due.is("no FAULT", x.fault(0), 0);
        due.is("no place", x.fault(1), -1);
        due.is("KEEPS", x.who(0, 1), 16 + 4);
        due.lines(x, 3, "witness 1 keeps 15 15 15 15 15 15;", 1);
        due.is("six times the same", x.who(1, 1), 32768);
        due.lines(x, 0, "cools keeps;", 1);
        x.act(0, 0, 1);
        due.is("how many TOPICS", x.of(0, 7), 1);
        due.lines(x, 2, "topic 3 near 4 5;topic 3 near 4 6;topic 4 near 3 2;", 3);
        due.is("of several the greatest", x.near(3, 4), 6);
    }

    private static void linesOfEach() {
        TongueGlass x = court();
        String[] line = {"warms 1;", "at 0 glass 0 out;", "topic 0 near 1 2;", "witness 0 keeps 1;"};
        for (int k = 0; k < 4; k++) {
            due.lines(x, k, Due.times(line[k], 16), 16);
            due.fault(x, k, Due.times(line[k], 17), 3, 16 * line[k].length());
            due.fault(x, k, Due.times(line[k], 16) + ";", 1, 16 * line[k].length());
        }
        due.fault(x, 0, Due.times(line[0], 16) + "when", 1, 128);
    }
}
