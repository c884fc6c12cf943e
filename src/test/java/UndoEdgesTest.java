import java.util.ArrayList;
import java.util.List;
import java.util.function.Consumer;

/**
 * The document's sentences on UNDO and THE IMAGE (Terms 4, promises 42 to 44), for each thing that can be told
 * or done: what goes back, what is forgotten, how many are kept, what THE IMAGE holds and what it does not.
 */
public final class UndoEdgesTest {
    private static final Due due = new Due();
    private static final int FORGETS = 0;
    private static final int LEAVES = 1;
    private static final int ONE_MORE = 2;

    private record Change(String name, int pasts, Consumer<TongueGlass> call) { }

    private static final List<Change> changes = new ArrayList<>();
    private static int firstForThought;

    public static void main(String[] args) {
        changesOfTheCourt();
        changesOfTexts();
        firstForThought = changes.size();
        changesForThought();
        for (Change c : changes) {
            changesIndeed(c);
            whatItForgets(c);
            goesBackByUndo(c);
            goesBackByTheImage(c);
            leavesTheRest(c);
        }
        leavesTheTape();
        aFaultLeavesTheRest();
        theRichOne();
        takingTheImage();
        nothingToBeUndone();
        sixAreKept();
        theOldestIsLost();
        eachMinuteAlone();
        whatUndoneIsGone();
        toldBetweenStays();
        stateAndBookGoBack();
        noImage();
        imageOfANewObject();
        imageAsItWasWhenTaken();
        imageMoreThanOnce();
        imageTakenAgain();
        imageIsNotTheTape();
        imageOfAFullOne();
        imageOfTheLast();
        theLastGoesBack();
        due.tell();
    }

    private static void add(String name, int pasts, Consumer<TongueGlass> call) {
        changes.add(new Change(name, pasts, call));
    }

    private static void changesOfTheCourt() {
        add("state", FORGETS, x -> x.state(99));
        add("glass", FORGETS, x -> x.glass(50));
        add("witness", FORGETS, x -> x.witness(5));
        add("set 0", FORGETS, x -> x.set(0, 0, 44));
        add("set 1", FORGETS, x -> x.set(1, 0, 366));
        add("set 2", FORGETS, x -> x.set(2, 0, 6));
        add("under", ONE_MORE, x -> due.is("act(0, 2, 2)", x.act(0, 2, 2), true));
        add("out", ONE_MORE, x -> due.is("act(1, 0, 0)", x.act(1, 0, 0), true));
        add("say", ONE_MORE, x -> due.is("act(2, 0, 9)", x.act(2, 0, 9), true));
        add("shake", ONE_MORE, x -> due.is("act(3, 0, 0)", x.act(3, 0, 0), true));
        add("wipe", ONE_MORE, x -> due.is("act(4, 0, 0)", x.act(4, 0, 0), true));
        add("a MINUTE", ONE_MORE, x -> due.is("minutes(1)", x.minutes(1) >= 0, true));
    }

    private static void changesOfTexts() {
        add("THE LAW", LEAVES, x -> text(x, 0, "warms 2;"));
        add("WALK", FORGETS, x -> text(x, 1, "at 8 glass 0 wipe;"));
        add("NEAR", LEAVES, x -> text(x, 2, "topic 1 near 2 6;"));
        add("KEEPS", FORGETS, x -> text(x, 3, "witness 0 keeps 2;"));
        add("THE LAW, empty", LEAVES, x -> text(x, 0, ""));
        add("WALK, empty", FORGETS, x -> text(x, 1, ""));
        add("NEAR, empty", LEAVES, x -> text(x, 2, ""));
        add("KEEPS, empty", FORGETS, x -> text(x, 3, ""));
    }

    private static void changesForThought() {
        add("warmth", LEAVES, x -> x.warmth(5, 10));
        add("warmth(NONE)", LEAVES, x -> x.warmth(-1, 0));
        add("world", LEAVES, x -> x.world(9, 5));
        add("world(NONE)", LEAVES, x -> x.world(-1, 0));
        add("point", LEAVES, x -> x.point(5, 5));
        add("point(NONE)", LEAVES, x -> x.point(-1, 0));
        add("saying", LEAVES, x -> x.saying(0, 37));
        add("saying(NONE)", LEAVES, x -> x.saying(-1, 0));
        add("coal", LEAVES, x -> x.coal(3));
        add("coal(NONE)", LEAVES, x -> x.coal(-1));
        add("shown", LEAVES, x -> x.shown(64));
        add("shown(NONE)", LEAVES, x -> x.shown(-1));
        add("cost", LEAVES, x -> x.cost(0, 40));
        add("cost of the 8th day", LEAVES, x -> {
            x.cost(4, 0);
            x.cost(0, 77);
        });
        add("reading", LEAVES, x -> x.reading(61));
        add("reading(NONE)", LEAVES, x -> x.reading(-1));
        add("dog", LEAVES, x -> x.dog(124));
        add("dog(NONE)", LEAVES, x -> x.dog(-1));
        add("juror", LEAVES, x -> x.juror(1));
        add("juror(NONE)", LEAVES, x -> x.juror(-1));
    }

    /** The TAPE of the rich one goes by it, and its FAULT. */
    private static void text(TongueGlass x, int k, String text) {
        x.end(0);
        due.is("text(" + k + ") of " + text, Due.text(x, k, text) >= 0, true);
    }

    /** So that the TAPE and fault(), which do not go back, part nobody. */
    private static List<Integer> answers(TongueGlass x) {
        x.text(9);
        return Rich.answers(x);
    }

    private static void changesIndeed(Change c) {
        TongueGlass x = Rich.court();
        c.call.accept(x);
        due.is(c.name + " shows", Rich.partsAt(answers(x), answers(Rich.court())) >= 0, true);
    }

    private static void whatItForgets(Change c) {
        TongueGlass x = Rich.court();
        int before = x.look(10);
        due.is("some to be undone", before >= 2 && before < 6, true);
        c.call.accept(x);
        int after = c.pasts == FORGETS ? 0 : c.pasts == LEAVES ? before : before + 1;
        due.is(c.name + ", what can be undone then", x.look(10), after);
        due.is(c.name + ", undo()", x.undo(), after > 0);
    }

    private static void goesBackByUndo(Change c) {
        if (c.pasts == ONE_MORE) {
            TongueGlass x = Rich.court();
            c.call.accept(x);
            due.is(c.name + ", undo()", x.undo(), true);
            due.is(c.name + " goes back; the answers part at", Rich.partsAt(answers(x), answers(Rich.court())), -1);
        }
    }

    private static void goesBackByTheImage(Change c) {
        TongueGlass x = Rich.court();
        due.is("image(true)", x.image(true), true);
        c.call.accept(x);
        due.is("image(false)", x.image(false), true);
        due.is("nothing to be undone", x.look(10), 0);
        due.is("undo()", x.undo(), false);
        TongueGlass y = Rich.court();
        y.image(true);
        y.image(false);
        due.is(c.name + " is in THE IMAGE; the answers part at", Rich.partsAt(answers(x), answers(y)), -1);
    }

    /** What is told for thought leaves the court; what is done in the court leaves what is told for thought. */
    private static void leavesTheRest(Change c) {
        TongueGlass x = Rich.court();
        c.call.accept(x);
        if (changes.indexOf(c) >= firstForThought) {
            int parts = Rich.partsAt(Rich.ofTheCourt(x), Rich.ofTheCourt(Rich.court()));
            due.is(c.name + " leaves the court; the answers part at", parts, -1);
        } else if (!c.name.startsWith("NEAR")) {
            int parts = Rich.partsAt(Rich.ofThought(x), Rich.ofThought(Rich.court()));
            due.is(c.name + " leaves what is told for thought; the answers part at", parts, -1);
        }
        if (c.name.equals("state")) {
            List<Integer> then = Rich.ofTheCourt(x);
            List<Integer> before = Rich.ofTheCourt(Rich.court());
            int unlike = 0;
            for (int i = 0; i < then.size(); i++) {
                unlike += then.get(i).equals(before.get(i)) ? 0 : 1;
            }
            due.is("state tells STATE and forgets what can be undone, nothing else", unlike, 2);
        }
    }

    /** The TAPE and fault() are told by feed, end and text alone. */
    private static void leavesTheTape() {
        List<Change> all = new ArrayList<>(changes);
        all.add(new Change("undo()", LEAVES, x -> x.undo()));
        all.add(new Change("image(true)", LEAVES, x -> x.image(true)));
        all.add(new Change("image(false)", LEAVES, x -> x.image(false)));
        for (Change c : all) {
            if (c.name.matches("(THE LAW|WALK|NEAR|KEEPS).*")) {
                continue;
            }
            TongueGlass x = Rich.court();
            int fault = x.fault(0);
            int place = x.fault(1);
            due.is("a FAULT", fault > 0 && place > 0, true);
            c.call.accept(x);
            due.is(c.name + " leaves fault(0)", x.fault(0), fault);
            due.is(c.name + " leaves fault(1)", x.fault(1), place);
            due.is(c.name + " leaves the TAPE", x.end(21), false);
            due.is(c.name + " leaves the TAPE", x.end(20), true);
            due.is(c.name + " leaves what stands there", x.text(0), 1);
            due.is("warms", x.of(0, 5), 7);
        }
    }

    private static void aFaultLeavesTheRest() {
        String[] texts = {"warms 9;warms 1/0;", "at 0 glass 0 out;at 0 glass 9 out;", "topic 1 near 2 9;;", "witness 2 keeps 3;keeps"};
        for (int k = 0; k < 4; k++) {
            TongueGlass x = Rich.court();
            x.end(0);
            due.is("a FAULT", Due.text(x, k, texts[k]), -1);
            List<Integer> then = Rich.ofTheCourt(x);
            List<Integer> before = Rich.ofTheCourt(Rich.court());
            int faults = then.size() - 2;
            int parts = Rich.partsAt(then.subList(0, faults), before.subList(0, faults));
            due.is("a FAULT of text " + k + " leaves the court; the answers part at", parts, -1);
            due.is("and thought; the answers part at", Rich.partsAt(Rich.ofThought(x), Rich.ofThought(Rich.court())), -1);
        }
    }

    /** What the one that all are compared with has been told: nothing of it is lost by what was told behind it. */
    private static void theRichOne() {
        TongueGlass x = Rich.court();
        int[] looks = {3, 3, 1, 3, 2, 4711, 3, 2, 2, 2, 4};
        for (int what = 0; what <= 10; what++) {
            due.is("look(" + what + ")", x.look(what), looks[what]);
        }
        int[][] glasses = {{2, 376, 1, 4, 0, 31, 300, 4, 10}, {98, 350, 0, -1, 0, 1, 300, 4, 0}, {16, 300, -1, -1, 0, 1, 300, 4, 0}};
        int[][] witnesses = {{0, 2, 1, 0, 1}, {1, 16, 1, 0, 0}, {2, 0, 0, 0, -1}};
        for (int i = 0; i < 3; i++) {
            for (int what = 0; what < 9; what++) {
                due.is("of(" + i + ", " + what + ")", x.of(i, what), glasses[i][what]);
            }
            for (int what = 0; what < 5; what++) {
                due.is("who(" + i + ", " + what + ")", x.who(i, what), witnesses[i][what]);
            }
        }
        due.is("fault(0)", x.fault(0), 2);
        due.is("fault(1)", x.fault(1), 30);
        int[] counts = {x.warmth(1, 10), x.world(1, 0), x.point(4, 16), x.saying(1, 1), x.coal(1), x.shown(1), x.reading(1), x.dog(1),
            x.juror(1)};
        int[] want = {3, 3, 3, 3, 3, 4, 4, 3, 3};
        for (int i = 0; i < counts.length; i++) {
            due.is("row " + i, counts[i], want[i]);
        }
        due.is("costs", x.change(4, 99, 0), 99 + 4 + 9);
    }

    private static void takingTheImage() {
        TongueGlass x = Rich.court();
        x.image(true);
        TongueGlass y = Rich.court();
        due.is("taking it leaves the court; the answers part at", Rich.partsAt(Rich.ofTheCourt(x), Rich.ofTheCourt(y)), -1);
        due.is("and thought; the answers part at", Rich.partsAt(Rich.ofThought(x), Rich.ofThought(y)), -1);
        for (int i = x.look(10); i > 0; i--) {
            due.is("undo()", x.undo() && y.undo(), true);
            due.is("and what can be undone; the answers part at", Rich.partsAt(Rich.ofTheCourt(x), Rich.ofTheCourt(y)), -1);
        }
        due.is("no more", x.undo() || y.undo(), false);
        x = Rich.court();
        y = Rich.court();
        x.image(true);
        x.image(false);
        y.state(y.look(5));
        due.is("gone back at once, but for what can be undone; the answers part at", Rich.partsAt(Rich.ofTheCourt(x),
            Rich.ofTheCourt(y)), -1);
    }

    // ---- UNDO

    private static void nothingToBeUndone() {
        TongueGlass x = Rich.court();
        for (int left = x.look(10); left > 0; left--) {
            due.is("undo()", x.undo(), true);
        }
        due.is("nothing to be undone", x.look(10), 0);
        due.is("undo()", x.undo(), false);
        TongueGlass fresh = new TongueGlass();
        due.is("undo() of a new one", fresh.undo(), false);
        due.is("look(10)", fresh.look(10), 0);
    }

    private static void sixAreKept() {
        for (int deeds = 0; deeds <= 14; deeds++) {
            TongueGlass x = Due.court(1, 1);
            for (int i = 0; i < deeds; i++) {
                due.is("look(10) ahead of deed " + i, x.look(10), Math.min(6, i));
                x.act(i % 2, 0, 0);
            }
            int kept = Math.min(6, deeds);
            due.is("look(10) behind " + deeds, x.look(10), kept);
            for (int i = 1; i <= kept; i++) {
                due.is("undo()", x.undo(), true);
                due.is("look(10)", x.look(10), kept - i);
                due.is("lines", x.look(4), deeds - i);
                due.is("UNDER", x.of(0, 2), (deeds - i) % 2 - 1);
            }
            due.is("the next undo()", x.undo(), false);
            due.is("lines stay", x.look(4), deeds - kept);
        }
    }

    private static void theOldestIsLost() {
        TongueGlass x = Due.court(1, 1);
        x.set(1, 0, 310);
        x.set(0, 0, 5);
        x.act(0, 0, 0);
        x.act(2, 0, 3);
        x.act(3, 0, 0);
        x.act(4, 0, 0);
        x.act(1, 0, 0);
        x.minutes(1);
        due.is("six", x.look(10), 6);
        x.minutes(1);
        due.is("six still", x.look(10), 6);
        for (int i = 0; i < 6; i++) {
            due.is("undo()", x.undo(), true);
        }
        due.is("the first of seven stays: UNDER", x.of(0, 2), 0);
        due.is("SAID goes back", x.of(0, 3), -1);
        due.is("READS", x.of(0, 1), 310);
        due.is("LEARNT", x.of(0, 0), 5);
        due.is("TIME", x.look(2), 0);
        due.is("undo()", x.undo(), false);
    }

    private static void eachMinuteAlone() {
        for (int n : new int[] {1, 2, 5, 6, 7, 60}) {
            TongueGlass x = Due.court(1, 1);
            x.minutes(n);
            int kept = Math.min(6, n);
            due.is("minutes(" + n + "), look(10)", x.look(10), kept);
            for (int i = 1; i <= kept; i++) {
                due.is("undo()", x.undo(), true);
                due.is("TIME", x.look(2), n - i);
            }
            due.is("undo()", x.undo(), false);
        }
        TongueGlass x = Due.court(1, 1);
        x.act(0, 0, 0);
        x.minutes(5);
        due.is("one and five", x.look(10), 6);
        x.minutes(2);
        for (int i = 0; i < 6; i++) {
            x.undo();
        }
        due.is("the oldest two are lost", x.look(2), 1);
        due.is("UNDER stays", x.of(0, 2), 0);
    }

    private static void whatUndoneIsGone() {
        TongueGlass x = Due.court(1, 2);
        x.act(2, 0, 1);
        x.act(2, 0, 2);
        x.undo();
        x.act(0, 0, 1);
        due.is("look(10)", x.look(10), 2);
        x.undo();
        due.is("SAID", x.of(0, 3), 1);
        due.is("UNDER", x.of(0, 2), -1);
        due.is("CALLED", x.who(1, 2), 0);
        x.undo();
        due.is("SAID", x.of(0, 3), -1);
        due.is("no more", x.undo(), false);
    }

    private static void toldBetweenStays() {
        TongueGlass x = Due.court(1, 1);
        x.act(2, 0, 1);
        Due.text(x, 0, "warms 5;");
        Due.text(x, 2, "topic 1 near 2 3;");
        x.warmth(1, 10);
        x.cost(0, 9);
        x.juror(5);
        x.minutes(1);
        x.undo();
        x.undo();
        due.is("SAID goes back", x.of(0, 3), -1);
        due.is("THE LAW stays", x.of(0, 5), 5);
        due.is("its lines", x.look(6), 1);
        due.is("NEAR stays", x.near(1, 2), 3);
        due.is("its lines", x.look(8), 1);
        due.is("warmth stays", x.fits(1, 1), 2);
        due.is("cost stays", x.change(1, 1, 0), 10);
        due.is("juror stays", x.jury(5, -1), 1);
    }

    private static void stateAndBookGoBack() {
        TongueGlass x = Due.court(2, 2);
        Due.text(x, 0, "slips 500;warms 99;");
        x.state(31);
        x.set(1, 0, 420);
        x.set(1, 1, 420);
        x.act(0, 0, 0);
        x.act(0, 1, 1);
        x.act(2, 0, 1);
        x.act(2, 1, 1);
        int state = 31;
        for (int i = 0; i < 2; i++) {
            state = 1664525 * state + 1013904223;
        }
        x.minutes(1);
        due.is("two draws", x.look(5), state);
        int lines = x.look(4);
        due.is("lines of it", lines >= 4, true);
        int[] after = {x.of(0, 1), x.of(1, 1), x.of(0, 4), x.of(1, 4), x.who(0, 3), x.who(1, 3)};
        x.undo();
        due.is("STATE", x.look(5), 31);
        due.is("THE BOOK", x.look(4), 2);
        due.is("book(2, 0)", x.book(2, 0), -1);
        due.is("OFF", x.of(0, 4) + x.of(1, 4), 0);
        due.is("GIVEN", x.who(0, 3) + x.who(1, 3), 0);
        due.is("SAID", x.of(0, 3), 1);
        x.minutes(1);
        int[] again = {x.of(0, 1), x.of(1, 1), x.of(0, 4), x.of(1, 4), x.who(0, 3), x.who(1, 3)};
        for (int i = 0; i < 6; i++) {
            due.is("the same draws come again", again[i], after[i]);
        }
        due.is("STATE", x.look(5), state);
    }

    // ---- THE IMAGE

    private static void noImage() {
        TongueGlass x = Due.court(2, 2);
        x.act(0, 0, 1);
        x.minutes(2);
        due.is("image(false)", x.image(false), false);
        due.is("what can be undone stays", x.look(10), 3);
        due.is("TIME", x.look(2), 2);
        due.is("GLASSES", x.look(0), 2);
        due.is("UNDER", x.of(0, 2), 1);
        due.is("again", x.image(false), false);
        due.is("taken", x.image(true), true);
        due.is("gone back to", x.image(false), true);
    }

    private static void imageOfANewObject() {
        TongueGlass x = new TongueGlass();
        due.is("image(true)", x.image(true), true);
        due.is("look(10)", x.look(10), 0);
        x.glass(5);
        x.witness(5);
        Due.text(x, 0, "warms 1;");
        Due.text(x, 1, "at 0 glass 0 out;");
        Due.text(x, 2, "topic 0 near 1 2;");
        Due.text(x, 3, "witness 0 keeps 1;");
        x.act(0, 0, 0);
        x.state(5);
        x.minutes(3);
        x.reading(5);
        x.cost(0, 5);
        due.is("image(false)", x.image(false), true);
        for (int what = 0; what <= 10; what++) {
            due.is("look(" + what + ") as at first", x.look(what), 0);
        }
        due.is("of(0, 0)", x.of(0, 0), -2);
        due.is("who(0, 0)", x.who(0, 0), -2);
        due.is("book(0, 0)", x.book(0, 0), -1);
        due.is("near(0, 1)", x.near(0, 1), 0);
        due.is("steady", x.steady(0, 0), 0);
        due.is("change", x.change(1, 1, 0), 1);
        due.is("the first GLASS", x.glass(1), 0);
        due.is("READS 300 at first", x.of(0, 1), 300);
        due.is("the first WITNESS", x.witness(1), 0);
        due.is("he keeps nothing back", x.who(0, 1), 0);
        due.is("CALLED 0 at first", x.who(0, 2), 0);
    }

    private static void imageAsItWasWhenTaken() {
        TongueGlass x = Due.court(1, 1);
        x.act(0, 0, 0);
        x.minutes(2);
        x.image(true);
        due.is("taking forgets nothing", x.look(10), 3);
        x.undo();
        due.is("TIME", x.look(2), 1);
        x.undo();
        x.undo();
        due.is("undone ahead of it", x.of(0, 2), -1);
        x.image(false);
        due.is("as it was when taken: TIME", x.look(2), 2);
        due.is("UNDER", x.of(0, 2), 0);
        due.is("CALLED", x.who(0, 2), 1);
        due.is("one line", x.look(4), 1);
        due.is("nothing to be undone", x.look(10), 0);
    }

    private static void imageMoreThanOnce() {
        TongueGlass x = Due.court(1, 1);
        x.state(5);
        x.act(0, 0, 0);
        x.image(true);
        for (int i = 0; i < 4; i++) {
            x.minutes(7 + i);
            x.state(6 + i);
            x.glass(3);
            x.coal(5);
            Due.text(x, 0, "warms " + i + ";");
            due.is("image(false)", x.image(false), true);
            due.is("TIME", x.look(2), 0);
            due.is("STATE", x.look(5), 5);
            due.is("GLASSES", x.look(0), 1);
            due.is("THE LAW", x.look(6), 0);
            due.is("heaps", x.coals(0), -1);
            due.is("at once again", x.image(false), true);
            due.is("UNDER", x.of(0, 2), 0);
        }
    }

    private static void imageTakenAgain() {
        TongueGlass x = Due.court(1, 1);
        x.image(true);
        x.minutes(5);
        due.is("taken again", x.image(true), true);
        x.minutes(5);
        x.image(false);
        due.is("the later one", x.look(2), 5);
        x.minutes(1);
        x.image(true);
        x.image(false);
        due.is("the latest", x.look(2), 6);
    }

    private static void imageIsNotTheTape() {
        TongueGlass x = Due.court(1, 1);
        Due.feed(x, "warms 5;");
        x.image(true);
        due.is("the TAPE stays when it is taken", x.end(8), true);
        x.end(0);
        Due.feed(x, "cools 7; cools");
        x.image(false);
        due.is("the TAPE stays as it is", x.end(14), true);
        due.is("a FAULT", x.text(0), -1);
        x.image(false);
        due.is("fault(0) stays", x.fault(0), 1);
        due.is("fault(1) stays", x.fault(1), 14);
        due.is("the TAPE is empty", x.end(1), false);
        x.image(true);
        x.text(0);
        x.image(false);
        due.is("fault(0) is not of it", x.fault(0), 0);
        due.is("fault(1) is not of it", x.fault(1), -1);
    }

    /** The last GLASS, the last WITNESS and the 16th lines are in THE IMAGE, too. */
    private static void imageOfTheLast() {
        TongueGlass x = Due.court(6, 12);
        Due.text(x, 0, Due.times("slips 1 when 1=2;", 15) + "warms cold*4;");
        Due.text(x, 1, Due.times("at 9 glass 0 out;", 15) + "at 2 glass 5 say 14;");
        Due.text(x, 2, Due.times("topic 0 near 1 2;", 15) + "topic 13 near 15 7;");
        Due.text(x, 3, Due.times("witness 0 keeps 1;", 15) + "witness 11 keeps 15;");
        x.set(0, 5, 33);
        x.set(1, 5, 355);
        x.set(2, 11, 8);
        x.act(0, 5, 11);
        x.act(2, 5, 13);
        x.minutes(1);
        x.act(2, 5, 13);
        List<Integer> before = ofTheLast(x);
        x.image(true);
        for (int i = 0; i < 2; i++) {
            x.act(1, 5, 0);
            x.act(0, 5, 0);
            x.act(2, 5, 3);
            x.set(0, 5, 3);
            x.set(1, 5, 420);
            x.set(2, 11, 3);
            Due.text(x, 0, Due.times("cools 1;", 15) + "warms 99;");
            x.minutes(1);
            x.act(0, 5, 11);
            x.act(2, 5, 1);
            x.minutes(1);
            Due.text(x, 1, Due.times("at 3 glass 5 wipe;", 15) + "at 3 glass 3 shake;");
            Due.text(x, 2, Due.times("topic 13 near 15 8;", 16));
            Due.text(x, 3, Due.times("witness 11 keeps 13;", 16));
            due.is("OFF", x.of(5, 4), 2);
            x.image(false);
            due.is("the last is in THE IMAGE; the answers part at", Rich.partsAt(ofTheLast(x), before), -1);
        }
    }

    private static List<Integer> ofTheLast(TongueGlass x) {
        List<Integer> all = new ArrayList<>();
        for (int what = 0; what < 9; what++) {
            all.add(x.of(5, what));
        }
        for (int what = 0; what < 26; what++) {
            all.add(x.who(11, what));
            all.add(x.who(0, what));
        }
        for (int what = 0; what < 4; what++) {
            all.add(x.goes(1, what));
            all.add(x.goes(2, what));
            all.add(x.goes(3, what));
        }
        all.add(x.near(13, 15));
        return all;
    }

    private static void theLastGoesBack() {
        TongueGlass x = Due.court(6, 12);
        Due.text(x, 0, "warms 99;");
        Due.text(x, 3, "witness 11 keeps 15;");
        x.set(0, 5, 33);
        x.set(1, 5, 420);
        x.act(0, 5, 11);
        x.act(2, 5, 15);
        List<Integer> before = ofTheLast(x);
        x.minutes(1);
        x.act(3, 5, 0);
        x.act(4, 5, 0);
        x.act(2, 5, 9);
        due.is("OFF", x.of(5, 4), 1);
        due.is("GIVEN", x.who(11, 3), 1);
        for (int i = 0; i < 4; i++) {
            due.is("undo()", x.undo(), true);
        }
        due.is("the last goes back; the answers part at", Rich.partsAt(ofTheLast(x), before), -1);
        x.undo();
        x.undo();
        due.is("CALLED", x.who(11, 2), 0);
        due.is("SAID", x.of(5, 3), -1);
        due.is("UNDER", x.of(5, 2), -1);
    }

    private static void imageOfAFullOne() {
        TongueGlass x = Due.court(6, 12);
        for (int k = 0; k < 4; k++) {
            String[] line = {"warms 9;", "at 0 glass 5 say 1;", "topic 0 near 1 2;", "witness 11 keeps 1;"};
            Due.text(x, k, Due.times(line[k], 16));
        }
        for (int i = 0; i < 152; i++) {
            x.act(i % 2, 5, 11);
        }
        x.image(true);
        x.minutes(60);
        for (int k = 0; k < 4; k++) {
            Due.text(x, k, "");
        }
        x.image(false);
        int[] want = {6, 12, 0, 0, 150, 0, 16, 16, 16, 16, 0};
        for (int what = 0; what <= 10; what++) {
            due.is("look(" + what + ")", x.look(what), want[what]);
        }
        due.is("the last line", x.book(149, 1), 1);
        due.is("its WITNESS", x.book(149, 3), 11);
        due.is("CALLED", x.who(11, 2), 76);
        due.is("KEEPS", x.who(11, 1), 2);
        due.is("the 7th GLASS", x.glass(0), -1);
        due.is("the 13th WITNESS", x.witness(0), -1);
    }
}
