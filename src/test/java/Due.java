/** What the tests share: counting wrong answers, and bringing a text onto the TAPE. */
final class Due {
    private int wrong;

    void is(String call, long got, long want) {
        if (got != want) {
            wrong++;
            System.out.println(call + " answered " + got + ", due is " + want);
        }
    }

    void is(String call, boolean got, boolean want) {
        is(call, got ? 1 : 0, want ? 1 : 0);
    }

    /** Ends the program with 1 if an answer was wrong. */
    void tell() {
        System.out.println(wrong == 0 ? "all answers are as due" : wrong + " answers are not as due");
        if (wrong != 0) {
            System.exit(1);
        }
    }

    static void feed(TongueGlass x, String text) {
        int behind = 0;
        for (int at = 0; at < text.length(); at += 20) {
            behind = x.feed(four(text, at), four(text, at + 4), four(text, at + 8), four(text, at + 12), four(text, at + 16));
        }
        int unused = text.length() % 20 == 0 ? 0 : 20 - text.length() % 20;
        if (behind > 0) {
            x.end(behind - unused);
        }
    }

    static int text(TongueGlass x, int k, String text) {
        feed(x, text);
        return x.text(k);
    }

    private static int four(String text, int at) {
        int v = 0;
        for (int i = at; i < at + 4; i++) {
            v = v << 8 | (i < text.length() ? text.charAt(i) & 255 : 32);
        }
        return v;
    }

    void fault(TongueGlass x, int k, String text, int kind, int place) {
        int lines = x.look(6 + k);
        is("text(" + k + ") of " + text, text(x, k, text), -1);
        is("fault(0) of " + text, x.fault(0), kind);
        is("fault(1) of " + text, x.fault(1), place);
        is("lines as they were with " + text, x.look(6 + k), lines);
    }

    void lines(TongueGlass x, int k, String text, int lines) {
        is("text(" + k + ") of " + text, text(x, k, text), lines);
        is("fault(0) of " + text, x.fault(0), 0);
        is("fault(1) of " + text, x.fault(1), -1);
        is("lines of " + text, x.look(6 + k), lines);
    }
}
