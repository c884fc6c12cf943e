/** What the tests share: counting wrong answers, and bringing a text onto the TAPE. */
final class Due {
    private static final int MOST_MILLISECONDS = 300000;
    private int wrong;

    /** A call that does not end is a wrong answer, too. */
    Due() {
        Thread watch = new Thread(() -> {
            try {
                Thread.sleep(MOST_MILLISECONDS);
            } catch (InterruptedException e) {
                return;
            }
            System.out.println("a call did not end");
            Runtime.getRuntime().halt(1);
        });
        watch.setDaemon(true);
        watch.start();
    }

    void is(String call, long got, long want) {
        if (got != want) {
            wrong++;
            System.out.println(call + " answered " + got + ", due is " + want);
        }
    }

    void is(String call, boolean got, boolean want) {
        is(call, got ? 1 : 0, want ? 1 : 0);
    }

    /** Ends the program with 1 if an answer was wrong. */
    void tell() {
        System.out.println(wrong == 0 ? "all answers are as due" : wrong + " answers are not as due");
        if (wrong != 0) {
            System.exit(1);
        }
    }

    /** What lies next to bounds on each side, and the ends of int. */
    static int[] beyond(int low, int high) {
        return new int[] {low - 1, high + 1, Integer.MIN_VALUE, Integer.MAX_VALUE};
    }

    /** The bounds themselves, and what lies next to them within. */
    static int[] bounds(int low, int high) {
        return new int[] {low, low + 1, high - 1, high};
    }

    static String times(String part, int n) {
        StringBuilder all = new StringBuilder();
        for (int i = 0; i < n; i++) {
            all.append(part);
        }
        return all.toString();
    }

    static TongueGlass court(int glasses, int witnesses) {
        TongueGlass x = new TongueGlass();
        for (int i = 0; i < glasses; i++) {
            x.glass(0);
        }
        for (int i = 0; i < witnesses; i++) {
            x.witness(0);
        }
        return x;
    }

    static void feed(TongueGlass x, String text) {
        int behind = 0;
        for (int at = 0; at < text.length(); at += 20) {
            behind = x.feed(four(text, at), four(text, at + 4), four(text, at + 8), four(text, at + 12), four(text, at + 16));
        }
        int unused = text.length() % 20 == 0 ? 0 : 20 - text.length() % 20;
        if (behind > 0) {
            x.end(behind - unused);
        }
    }

    static int text(TongueGlass x, int k, String text) {
        feed(x, text);
        return x.text(k);
    }

    private static int four(String text, int at) {
        int v = 0;
        for (int i = at; i < at + 4; i++) {
            v = v << 8 | (i < text.length() ? text.charAt(i) & 255 : 32);
        }
        return v;
    }

    void fault(TongueGlass x, int k, String text, int kind, int place) {
        int lines = x.look(6 + k);
        is("text(" + k + ") of " + text, text(x, k, text), -1);
        is("fault(0) of " + text, x.fault(0), kind);
        is("fault(1) of " + text, x.fault(1), place);
        is("lines as they were with " + text, x.look(6 + k), lines);
    }

    void lines(TongueGlass x, int k, String text, int lines) {
        is("text(" + k + ") of " + text, text(x, k, text), lines);
        is("fault(0) of " + text, x.fault(0), 0);
        is("fault(1) of " + text, x.fault(1), -1);
        is("lines of " + text, x.look(6 + k), lines);
    }
}
