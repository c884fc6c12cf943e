import java.nio.charset.StandardCharsets;
import java.nio.file.Files;
import java.nio.file.Path;
import java.util.List;

/** The answers that README.md tells, call by call in its order; run from the project's folder. */
public final class ReadmeTest {
    private static final Due due = new Due();
    private static final TongueGlass x = new TongueGlass();
    private static List<String> lines;
    private static int told;

    public static void main(String[] args) throws Exception {
        lines = Files.readAllLines(Path.of("README.md"), StandardCharsets.UTF_8).stream()
            .filter(line -> line.matches("(x\\.|tell\\().*; +// .*")).toList();
        court();
        texts();
        minutes();
        back();
        thought();
        due.is("calls that README.md tells", told, lines.size());
        due.tell();
    }

    /** Takes the next line of README.md: it must be this call, with this answer. */
    private static void says(String call, String got) {
        String line = told < lines.size() ? lines.get(told) : "";
        told++;
        boolean same = line.matches("\\Q" + call + "\\E; +// \\Q" + got + "\\E(:.*)?");
        due.is("README.md: [" + line + "] for " + call + ", which answers " + got, same, true);
    }

    private static void says(String call, int got) {
        says(call, String.valueOf(got));
    }

    private static void says(String call, boolean got) {
        says(call, String.valueOf(got));
    }

    private static void tells(int k, String text) {
        says("tell(x, " + k + ", \"" + text + "\")", tell(x, k, text));
    }

    /** As README.md has it. */
    static int tell(TongueGlass x, int k, String text) {
        int[] five = new int[5];
        for (int at = 0; at < text.length(); at += 20) {
            for (int i = 0; i < 20; i++) {
                int letter = at + i < text.length() ? text.charAt(at + i) : ' ';
                five[i / 4] = five[i / 4] << 8 | letter;
            }
            x.feed(five[0], five[1], five[2], five[3], five[4]);
        }
        x.end(text.length());
        return x.text(k);
    }

    private static void court() {
        says("x.glass(5)", x.glass(5));
        says("x.witness(2)", x.witness(2));
        says("x.act(0, 0, 0)", x.act(0, 0, 0));
        says("x.look(3)", x.look(3));
    }

    private static void texts() {
        tells(2, "topic 1 near 2 5;");
        tells(3, "witness 0 keeps 2;");
        tells(0, "warms 4 * near - cold; cools 3 when reads > 310;");
        tells(1, "at 1 glass 0 say 2;");
        tells(2, "topic 1 near 1 5;");
        says("x.fault(0)", x.fault(0));
        says("x.fault(1)", x.fault(1));
    }

    private static void minutes() {
        says("x.act(2, 0, 1)", x.act(2, 0, 1));
        says("x.of(0, 8)", x.of(0, 8));
        says("x.of(0, 5)", x.of(0, 5));
        says("x.hottest(0, 0)", x.hottest(0, 0));
        says("x.goes(2, 0)", x.goes(2, 0));
        says("x.minutes(2)", x.minutes(2));
        says("x.of(0, 1)", x.of(0, 1));
        says("x.book(1, 3)", x.book(1, 3));
    }

    private static void back() {
        says("x.undo()", x.undo());
        says("x.of(0, 1)", x.of(0, 1));
        says("x.image(true)", x.image(true));
        says("x.minutes(60)", x.minutes(60));
        says("x.image(false)", x.image(false));
        says("x.of(0, 1)", x.of(0, 1));
    }

    private static void thought() {
        says("x.warmth(1, 5)", x.warmth(1, 5));
        says("x.fits(1, 0)", x.fits(1, 0));
        says("x.fits(1, 1)", x.fits(1, 1));
        says("x.warmth(-1, 0)", x.warmth(-1, 0));
        says("x.fits(1, 0)", x.fits(1, 0));
    }
}
