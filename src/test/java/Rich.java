import java.util.ArrayList;
import java.util.List;

/**
 * An object in the midst of all that can be told, and the answers by which two objects that should be alike are
 * compared: asked, then told more, undone and gone back to THE IMAGE, so that what can't be asked shows, too.
 */
final class Rich {
    private Rich() {
    }

    static TongueGlass court() {
        TongueGlass x = withoutImage();
        x.undo();
        x.image(true);
        x.act(0, 1, 0);
        return x;
    }

    /** The TAPE has 20 bytes, fault() tells one, four can be undone. */
    static TongueGlass withoutImage() {
        TongueGlass x = new TongueGlass();
        for (int i = 0; i < 3; i++) {
            x.glass(7 * i + 2);
            x.witness(i);
        }
        x.state(4711);
        Due.text(x, 0, "slips 300 when time>0;warms near*3+1;cools 4;");
        Due.text(x, 1, "at 5 glass 0 say 2;at 6 glass 1 under 2;");
        Due.text(x, 2, "topic 1 near 2 5;topic 1 near 3 7;");
        Due.text(x, 3, "witness 0 keeps 1;witness 1 keeps 4;");
        tellThoughts(x);
        x.set(1, 0, 380);
        x.set(1, 1, 350);
        x.set(0, 1, 98);
        x.act(0, 0, 1);
        x.minutes(1);
        x.act(2, 0, 4);
        x.act(0, 1, 0);
        Due.text(x, 2, "topic 1 near 2 5;topic 1 near 99 7;");
        x.feed(0x7761726d, 0x7320373b, 0x20202020, 0x20202020, 0x20202020);
        return x;
    }

    private static void tellThoughts(TongueGlass x) {
        x.warmth(2, 5);
        x.warmth(9, 0);
        x.world(2, 7);
        x.world(3, 56);
        x.point(2, 4);
        x.point(3, 9);
        x.saying(0, 7);
        x.saying(2, 0);
        x.coal(5);
        x.coal(3);
        x.shown(3);
        x.shown(6);
        x.shown(1);
        x.cost(0, 4);
        x.cost(3, 9);
        x.reading(50);
        x.reading(52);
        x.reading(60);
        x.dog(123);
        x.dog(12);
        x.juror(4);
        x.juror(2);
    }

    /** All answers, and those behind more that is told; at most some 400 calls. */
    static List<Integer> answers(TongueGlass x) {
        List<Integer> all = new ArrayList<>();
        ask(x, all);
        all.add(x.feed(0x20202020, 0x20202020, 0x20202020, 0x20202020, 0x2020203b));
        all.add(x.text(0));
        all.add(x.fault(0));
        all.add(x.fault(1));
        tellMore(x, all);
        all.add(x.minutes(1));
        all.add(x.look(5));
        all.add(x.undo() ? 1 : 0);
        all.add(x.undo() ? 1 : 0);
        ask(x, all);
        all.add(x.undo() ? 1 : 0);
        all.add(x.undo() ? 1 : 0);
        all.add(x.look(2));
        all.add(x.of(0, 1));
        all.add(x.image(false) ? 1 : 0);
        ask(x, all);
        return all;
    }

    private static void tellMore(TongueGlass x, List<Integer> all) {
        all.add(x.warmth(0, 0));
        all.add(x.world(1, 0));
        all.add(x.point(4, 16));
        all.add(x.saying(1, 30));
        all.add(x.coal(9));
        all.add(x.shown(8));
        all.add(x.reading(61));
        all.add(x.dog(7));
        all.add(x.juror(9));
    }

    /** What is asked of the court, without what is only thought; fault() comes last. */
    static List<Integer> ofTheCourt(TongueGlass x) {
        List<Integer> all = new ArrayList<>();
        askCourt(x, all);
        return all;
    }

    static List<Integer> ofThought(TongueGlass x) {
        List<Integer> all = new ArrayList<>();
        think(x, all);
        return all;
    }

    private static void ask(TongueGlass x, List<Integer> all) {
        askCourt(x, all);
        think(x, all);
    }

    private static void askCourt(TongueGlass x, List<Integer> all) {
        for (int what = 0; what <= 10; what++) {
            all.add(x.look(what));
        }
        for (int g = 0; g < 3; g++) {
            for (int what = 0; what < 9; what++) {
                all.add(x.of(g, what));
            }
        }
        for (int w = 0; w < 3; w++) {
            for (int what = 0; what < 5; what++) {
                all.add(x.who(w, what));
            }
            all.add(x.who(w, 12));
        }
        int last = x.look(4) - 1;
        for (int what = 0; what < 4; what++) {
            all.add(x.book(0, what));
            all.add(x.book(last, what));
            all.add(x.goes(9, what));
        }
        all.add(x.near(1, 2));
        all.add(x.near(3, 1));
        all.add(x.top(0));
        all.add(x.hottest(0, 1));
        all.add(x.fault(0));
        all.add(x.fault(1));
    }

    private static void think(TongueGlass x, List<Integer> all) {
        all.add(x.fits(1, 0));
        all.add(x.fits(2, 1));
        all.add(x.words(14, 0));
        all.add(x.sure(0, 3 * 256 + 5, 0));
        all.add(x.sure(1, 3 * 256 + 5, 1));
        all.add(x.term());
        all.add(x.cool(60, 23));
        all.add(x.coals(0));
        all.add(x.coals(1));
        all.add(x.show(0, 0));
        all.add(x.show(5, 2));
        all.add(x.change(9, 5, 0));
        all.add(x.change(9, 5, 1));
        all.add(x.steady(2, 0));
        all.add(x.steady(0, 1));
        all.add(x.dogs(0));
        all.add(x.dogs(1));
        all.add(x.jury(5, 0));
        all.add(x.jury(3, -1));
    }

    /** Where the answers part; -1 if they do not. */
    static int partsAt(List<Integer> a, List<Integer> b) {
        for (int i = 0; i < a.size() && i < b.size(); i++) {
            if (!a.get(i).equals(b.get(i))) {
                return i;
            }
        }
        return a.size() == b.size() ? -1 : Math.min(a.size(), b.size());
    }
}
