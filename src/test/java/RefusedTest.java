import java.util.ArrayList;
import java.util.List;
import java.util.function.Supplier;
import java.util.function.ToIntFunction;

/**
 * Each call that can't be ("NONE if ..", "NONE - 1 if ..", "false if .."): what it answers, and that nothing of
 * the object changes by it: a twin that was not called answers all alike, at once, behind undo() and behind
 * image(false), and its TAPE, too. So does one that is only asked.
 */
public final class RefusedTest {
    private static final Due due = new Due();

    private record Call(String name, int want, ToIntFunction<TongueGlass> call) { }

    private static final List<Call> calls = new ArrayList<>();

    public static void main(String[] args) {
        tellingCourt();
        acting();
        texts();
        askingCourt();
        tellingThought();
        askingThought();
        for (Call c : calls) {
            refused(c);
        }
        asked();
        undoRefused();
        imageRefused();
        feedRefused();
        fullOnes();
        due.tell();
    }

    private static void add(String name, int want, ToIntFunction<TongueGlass> call) {
        calls.add(new Call(name, want, call));
    }

    private static void not(String name, java.util.function.Predicate<TongueGlass> call) {
        calls.add(new Call(name, 0, x -> call.test(x) ? 1 : 0));
    }

    private static void refused(Call c) {
        TongueGlass x = Rich.court();
        due.is(c.name, c.call.applyAsInt(x), c.want);
        changesNothing(c.name, c.call, Rich::court);
    }

    private static void changesNothing(String name, ToIntFunction<TongueGlass> call, Supplier<TongueGlass> made) {
        for (int then = 0; then < 4; then++) {
            TongueGlass x = made.get();
            call.applyAsInt(x);
            int parts = Rich.partsAt(answers(x, then), answers(made.get(), then));
            due.is(name + " changes nothing; the answers in way " + then + " part at", parts, -1);
        }
    }

    private static List<Integer> answers(TongueGlass x, int then) {
        List<Integer> all = new ArrayList<>();
        switch (then) {
            case 0 -> all.add(x.look(10));
            case 1 -> all.add(x.undo() ? 1 : 0);
            case 2 -> all.add(x.image(false) ? 1 : 0);
            default -> {
                for (int v : new int[] {x.fault(0), x.fault(1), x.end(21) ? 1 : 0, x.end(20) ? 1 : 0, x.text(0), x.of(0, 5)}) {
                    all.add(v);
                }
            }
        }
        all.addAll(Rich.answers(x));
        return all;
    }

    private static void tellingCourt() {
        for (int v : Due.beyond(0, 99)) {
            add("glass(" + v + ")", -1, x -> x.glass(v));
            not("set(0, 0, " + v + ")", x -> x.set(0, 0, v));
        }
        for (int v : Due.beyond(0, 9)) {
            add("witness(" + v + ")", -1, x -> x.witness(v));
            not("set(2, 0, " + v + ")", x -> x.set(2, 0, v));
        }
        for (int v : Due.beyond(300, 420)) {
            not("set(1, 0, " + v + ")", x -> x.set(1, 0, v));
        }
        for (int v : Due.beyond(0, 2)) {
            not("set(" + v + ", 0, 5)", x -> x.set(v, 0, 5));
            not("set(" + v + ", 0, 305)", x -> x.set(v, 0, 305));
            not("set(2, " + v + ", 5)", x -> x.set(2, v, 5));
        }
        for (int v : Due.beyond(0, 2)) {
            not("set(0, " + v + ", 5)", x -> x.set(0, v, 5));
            not("set(1, " + v + ", 305)", x -> x.set(1, v, 305));
        }
    }

    private static void acting() {
        not("act(0, 0, 2): the GLASS is UNDER one", x -> x.act(0, 0, 2));
        not("act(0, 0, 1): UNDER him", x -> x.act(0, 0, 1));
        not("act(0, 2, 1): he has one", x -> x.act(0, 2, 1));
        not("act(1, 2, 0): under nobody", x -> x.act(1, 2, 0));
        not("act(3, 2, 0): READS 300", x -> x.act(3, 2, 0));
        for (int v : Due.beyond(0, 2)) {
            not("act(0, 0, " + v + ")", x -> x.act(0, 0, v));
            not("act(0, 2, " + v + "), under nobody", x -> x.act(0, 2, v));
            for (int what = 0; what < 5; what++) {
                int deed = what;
                not("act(" + what + ", " + v + ", 2)", x -> x.act(deed, v, 2));
            }
        }
        for (int v : Due.beyond(0, 4)) {
            not("act(" + v + ", 0, 2)", x -> x.act(v, 0, 2));
        }
        for (int v : Due.beyond(0, 15)) {
            not("act(2, 0, " + v + ")", x -> x.act(2, 0, v));
        }
        not("act(2, 0, 4): it is SAID", x -> x.act(2, 0, 4));
        for (int v : Due.beyond(1, 60)) {
            add("minutes(" + v + ")", -1, x -> x.minutes(v));
        }
    }

    private static void texts() {
        for (int v : new int[] {-1, 21, 400, Integer.MIN_VALUE, Integer.MAX_VALUE}) {
            not("end(" + v + ")", x -> x.end(v));
        }
        add("end(20), all that there is", 1, x -> x.end(20) ? 1 : 0);
        for (int v : new int[] {-1, 2, Integer.MIN_VALUE, Integer.MAX_VALUE}) {
            add("fault(" + v + ")", -1, x -> x.fault(v));
        }
    }

    private static void askingCourt() {
        for (int v : Due.beyond(0, 2)) {
            add("of(" + v + ", 0)", -2, x -> x.of(v, 0));
            add("top(" + v + ")", -1, x -> x.top(v));
            add("hottest(" + v + ", 0)", -1, x -> x.hottest(v, 0));
        }
        for (int v : Due.beyond(0, 1)) {
            add("hottest(0, " + v + ")", -1, x -> x.hottest(0, v));
        }
        add("hottest(2, 0), under nobody", -1, x -> x.hottest(2, 0));
        add("hottest(2, 1), under nobody", -1, x -> x.hottest(2, 1));
        for (int v : Due.beyond(0, 8)) {
            add("of(0, " + v + ")", -2, x -> x.of(0, v));
        }
        for (int v : Due.beyond(0, 2)) {
            add("who(" + v + ", 0)", -2, x -> x.who(v, 0));
        }
        for (int v : new int[] {-1, 5, 9, 26, Integer.MIN_VALUE, Integer.MAX_VALUE}) {
            add("who(0, " + v + ")", -2, x -> x.who(0, v));
        }
        for (int v : Due.beyond(0, 15)) {
            add("near(" + v + ", 1)", -1, x -> x.near(v, 1));
            add("near(1, " + v + ")", -1, x -> x.near(1, v));
        }
        for (int v : Due.beyond(0, 3)) {
            add("book(0, " + v + ")", -1, x -> x.book(0, v));
            add("goes(1, " + v + ")", -1, x -> x.goes(1, v));
        }
        add("book behind the last", -1, x -> x.book(x.look(4), 0));
        add("book(-1, 0)", -1, x -> x.book(-1, 0));
        for (int v : Due.beyond(1, 60)) {
            add("goes(" + v + ", 0)", -1, x -> x.goes(v, 0));
        }
        for (int v : Due.beyond(0, 10)) {
            add("look(" + v + ")", -1, x -> x.look(v));
        }
    }

    private static void tellingThought() {
        for (int v : new int[] {-2, 65536, Integer.MIN_VALUE, Integer.MAX_VALUE}) {
            add("warmth(" + v + ", 0)", -1, x -> x.warmth(v, 0));
            add("warmth(0, " + v + ")", -1, x -> x.warmth(0, v));
            add("world(" + v + ", 0)", -1, x -> x.world(v, 0));
            add("world(1, " + v + ")", -1, x -> x.world(1, v));
            add("point(" + v + ", 0)", -1, x -> x.point(v, 0));
            add("point(0, " + (v == -2 ? -100 : v) + ")", -1, x -> x.point(0, v == -2 ? -100 : v));
            add("saying(" + v + ", 1)", -1, x -> x.saying(v, 1));
            add("saying(0, " + v + ")", -1, x -> x.saying(0, v));
            add("saying(1, " + v + ")", -1, x -> x.saying(1, v));
            add("coal(" + v + ")", -1, x -> x.coal(v));
            add("shown(" + v + ")", -1, x -> x.shown(v));
            add("reading(" + v + ")", -1, x -> x.reading(v));
            add("dog(" + v + ")", -1, x -> x.dog(v));
            add("juror(" + v + ")", -1, x -> x.juror(v));
            not("cost(" + v + ", 0)", x -> x.cost(v, 0));
            not("cost(0, " + v + ")", x -> x.cost(0, v));
        }
        add("warmth(16, 0)", -1, x -> x.warmth(16, 0));
        add("warmth(0, 11)", -1, x -> x.warmth(0, 11));
        add("warmth(0, -1)", -1, x -> x.warmth(0, -1));
        add("world(0, 0)", -1, x -> x.world(0, 0));
        add("world(10, 0)", -1, x -> x.world(10, 0));
        add("world(1, 256)", -1, x -> x.world(1, 256));
        add("world(1, -1)", -1, x -> x.world(1, -1));
        add("point(10, 0)", -1, x -> x.point(10, 0));
        add("point(0, 100)", -1, x -> x.point(0, 100));
        add("saying(4, 1)", -1, x -> x.saying(4, 1));
        add("saying(0, 0)", -1, x -> x.saying(0, 0));
        add("saying(1, 51)", -1, x -> x.saying(1, 51));
        add("saying(1, -1)", -1, x -> x.saying(1, -1));
        add("coal(0)", -1, x -> x.coal(0));
        add("coal(41)", -1, x -> x.coal(41));
        add("reading(100)", -1, x -> x.reading(100));
        add("dog(0)", -1, x -> x.dog(0));
        add("dog(10000)", -1, x -> x.dog(10000));
        add("juror(0)", -1, x -> x.juror(0));
        add("juror(21)", -1, x -> x.juror(21));
        not("cost(8, 0)", x -> x.cost(8, 0));
        not("cost(0, 100)", x -> x.cost(0, 100));
        not("cost(-1, 0)", x -> x.cost(-1, 0));
        not("cost(0, -1)", x -> x.cost(0, -1));
    }

    private static void askingThought() {
        for (int v : new int[] {-2, 65536, Integer.MIN_VALUE, Integer.MAX_VALUE}) {
            add("fits(" + v + ", 0)", -1, x -> x.fits(v, 0));
            add("fits(1, " + v + ")", -1, x -> x.fits(1, v));
            add("words(" + v + ", 0)", -1, x -> x.words(v, 0));
            add("words(6, " + v + ")", -1, x -> x.words(6, v));
            add("sure(" + v + ", 512, 0)", -1, x -> x.sure(v, 512, 0));
            add("sure(0, " + v + ", 0)", -1, x -> x.sure(0, v, 0));
            add("sure(0, 512, " + v + ")", -1, x -> x.sure(0, 512, v));
            add("cool(" + v + ", 0)", -1, x -> x.cool(v, 0));
            add("cool(0, " + v + ")", -1, x -> x.cool(0, v));
            add("coals(" + v + ")", -1, x -> x.coals(v));
            add("show(" + v + ", 1)", -1, x -> x.show(v, 1));
            add("show(0, " + v + ")", -1, x -> x.show(0, v));
            add("change(" + v + ", 1, 0)", -1, x -> x.change(v, 1, 0));
            add("change(1, " + v + ", 0)", -1, x -> x.change(1, v, 0));
            add("change(1, 1, " + v + ")", -1, x -> x.change(1, 1, v));
            add("dear(" + v + ", 0)", -1, x -> x.dear(v, 0));
            add("dear(3, " + v + ")", -1, x -> x.dear(3, v));
            add("steady(" + v + ", 0)", -1, x -> x.steady(v, 0));
            add("steady(1, " + v + ")", -1, x -> x.steady(1, v));
            add("quiet(" + v + ", 1)", -1, x -> x.quiet(v, 1));
            add("quiet(1, " + v + ")", -1, x -> x.quiet(1, v));
            add("dogs(" + v + ")", -1, x -> x.dogs(v));
            add("jury(" + v + ", 0)", -1, x -> x.jury(v, 0));
            add("jury(1, " + v + ")", -1, x -> x.jury(1, v));
        }
    }

    /** What can be asked changes nothing either: nothing of thought stays. */
    private static void asked() {
        calls.clear();
        for (int what = 0; what < 4; what++) {
            int w = what;
            add("goes(60, " + w + ")", 0, x -> x.goes(60, w));
            add("book(0, " + w + ")", 0, x -> x.book(0, w));
            add("show(3, " + w + ")", 0, x -> x.show(3, w));
        }
        for (int i = 0; i < 2; i++) {
            int w = i;
            add("top(" + w + ")", 0, x -> x.top(w));
            add("hottest(0, " + w + ")", 0, x -> x.hottest(0, w));
            add("fits(3, " + w + ")", 0, x -> x.fits(3, w));
            add("words(255, " + w + ")", 0, x -> x.words(255, w));
            add("sure(1, 2303, " + w + ")", 0, x -> x.sure(1, 2303, w));
            add("coals(" + w + ")", 0, x -> x.coals(w));
            add("change(40, 99, " + w + ")", 0, x -> x.change(40, 99, w));
            add("dear(40, " + w + ")", 0, x -> x.dear(40, w));
            add("steady(99, " + w + ")", 0, x -> x.steady(99, w));
            add("dogs(" + w + ")", 0, x -> x.dogs(w));
            add("jury(1, " + (w - 1) + ")", 0, x -> x.jury(1, w - 1));
            add("fault(" + w + ")", 0, x -> x.fault(w));
        }
        for (int what = 0; what < 9; what++) {
            int w = what;
            add("of(0, " + w + ")", 0, x -> x.of(0, w));
            add("who(0, " + w + ")", 0, x -> x.who(0, w));
            add("look(" + (w + 2) + ")", 0, x -> x.look(w + 2));
        }
        add("who(1, 14)", 0, x -> x.who(1, 14));
        add("near(1, 2)", 0, x -> x.near(1, 2));
        add("cool(99, 1)", 0, x -> x.cool(99, 1));
        add("quiet(60, 5)", 0, x -> x.quiet(60, 5));
        add("term()", 0, x -> x.term());
        for (Call c : calls) {
            changesNothing(c.name, c.call, Rich::court);
        }
    }

    private static TongueGlass allUndone() {
        TongueGlass x = Rich.court();
        for (int left = x.look(10); left > 0; left--) {
            x.undo();
        }
        return x;
    }

    private static void undoRefused() {
        due.is("undo() of nothing", allUndone().undo(), false);
        changesNothing("undo() of nothing", x -> x.undo() ? 1 : 0, RefusedTest::allUndone);
    }

    private static void imageRefused() {
        due.is("image(false) of none", Rich.withoutImage().image(false), false);
        changesNothing("image(false) of none", x -> x.image(false) ? 1 : 0, Rich::withoutImage);
    }

    private static TongueGlass fullTape() {
        TongueGlass x = Rich.court();
        for (int i = 0; i < 19; i++) {
            x.feed(0x20202020, 0x20202020, 0x20202020, 0x20202020, 0x20202020);
        }
        return x;
    }

    private static void feedRefused() {
        due.is("feed beyond 400", fullTape().feed(0, 0, 0, 0, 0), -1);
        changesNothing("feed beyond 400", x -> x.feed(0, 0, 0, 0, 0), RefusedTest::fullTape);
    }

    /** Six GLASSES, twelve WITNESSES, a full TAPE, full rows, TIME 9999: the next one is refused and changes nothing. */
    private static void fullOnes() {
        List<Call> ones = List.of(new Call("the 7th GLASS", -1, x -> x.glass(0)), new Call("the 13th WITNESS", -1, x -> x.witness(0)),
            new Call("bytes beyond 400", -1, x -> x.feed(0x3b3b3b3b, 0x3b3b3b3b, 0x3b3b3b3b, 0x3b3b3b3b, 0x3b3b3b3b)),
            new Call("the 9th warmth", -1, x -> x.warmth(1, 10)), new Call("the 7th world", -1, x -> x.world(9, 5)),
            new Call("the 5th point", -1, x -> x.point(5, 5)), new Call("the 7th saying", -1, x -> x.saying(1, 37)),
            new Call("the 5th heap", -1, x -> x.coal(3)), new Call("the 9th set", -1, x -> x.shown(0x8000)),
            new Call("the 25th reading", -1, x -> x.reading(52)), new Call("the 9th name", -1, x -> x.dog(777)),
            new Call("the 9th juror", -1, x -> x.juror(20)), new Call("TIME beyond 9999", -1, x -> x.minutes(60)));
        for (Call c : ones) {
            TongueGlass x = full();
            TongueGlass y = full();
            due.is(c.name, c.call.applyAsInt(x), c.want);
            due.is(c.name + " changes nothing; the answers part at", Rich.partsAt(ofFull(x), ofFull(y)), -1);
        }
    }

    private static TongueGlass full() {
        TongueGlass x = Due.court(6, 12);
        for (int i = 0; i < 166; i++) {
            x.minutes(60);
        }
        x.minutes(5);
        for (int i = 0; i < 8; i++) {
            x.warmth(i, 0);
            x.world(3, i);
            x.point(i, i);
            x.saying(0, i + 1);
            x.coal(1);
            x.shown(1 << i);
            x.reading(10 * i);
            x.reading(10 * i + 5);
            x.reading(10 * i + 1);
            x.dog(9 * i + 1);
            x.juror(i + 1);
        }
        Due.feed(x, Due.times(" ", 400));
        return x;
    }

    private static List<Integer> ofFull(TongueGlass x) {
        List<Integer> all = new ArrayList<>();
        for (int what = 0; what <= 10; what++) {
            all.add(x.look(what));
        }
        for (int v : new int[] {x.of(5, 0), x.who(11, 0), x.fits(1, 0), x.sure(0, 512, 1), x.term(), x.cool(50, 0), x.cool(0, 37),
            x.coals(0), x.show(0, 0), x.steady(1, 0), x.steady(5, 0), x.dogs(1), x.jury(20, -1), x.end(401) ? 1 : 0, x.end(400) ? 1 : 0,
            x.text(0), x.fault(1)}) {
            all.add(v);
        }
        return all;
    }
}
