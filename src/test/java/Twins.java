import java.util.ArrayList;
import java.util.List;
import java.util.function.Supplier;

/**
 * "What is refused answers as told and changes nothing": two objects are made alike, one is asked what is refused;
 * then both must answer alike whatever can be asked, and what can be UNDONE and brought BACK must be the same, too.
 */
final class Twins {
    /** Out of all bounds; some come back into them when they are multiplied by 4, by 8, by 9 in 32 bits. */
    static final int[] WILD = {
        Integer.MIN_VALUE, Integer.MIN_VALUE + 1, -1000000, -2, 100, 256, 477218589, 1 << 29, 1 << 30, (1 << 30) + 1, Integer.MAX_VALUE};

    /** A call; a boolean counts 1 or 0. */
    interface Call {
        long of(QuiltLaw x);
    }

    private Twins() {
    }

    /** ROWS 2, COLUMNS 2; SQUARE 4 lies in CELL 1, SQUARE 2 in CELL 3; five SQUARES, two LIKINGS, nine ACTS, an IMAGE, BIDS. */
    static QuiltLaw rich() {
        QuiltLaw x = Checks.quilt("gr2c2;sh1d3w2k1l4e1234;sh2d2w5k2l7e0213;sh1d6w1l2e4411;sh3d1;sh4w9;lw5r1");
        Checks.take(x, 1, "y:l+c");
        Checks.take(x, 1, "y:r=1?d;y:w-9");
        x.liking(1);
        x.turn(0, 1);
        x.lay(0, 0);
        x.lay(3, 1);
        x.turn(1, 2);
        x.take(3);
        x.lay(3, 2);
        x.image();
        x.turn(2, 3);
        x.take(0);
        x.lay(1, 4);
        x.bid(0, 0, 7);
        x.bid(1, 1, 5);
        x.bid(2, 0, 9);
        x.bid(3, 3, 1);
        Checks.feed(x, "sh1;g");
        return x;
    }

    static QuiltLaw withoutQuilt() {
        QuiltLaw x = new QuiltLaw();
        Checks.take(x, 1, "y:3");
        x.liking(0);
        Checks.feed(x, "s;g");
        return x;
    }

    static void refused(Checks c, String what, long want, Call call) {
        refused(c, what, Twins::rich, want, call);
    }

    static void refusedWithoutQuilt(Checks c, String what, long want, Call call) {
        refused(c, what, QuiltLaw::new, want, call);
        refused(c, what, Twins::withoutQuilt, want, call);
    }

    static void refused(Checks c, String what, Supplier<QuiltLaw> made, long want, Call call) {
        QuiltLaw asked = made.get();
        c.due(what, call.of(asked), want);
        same(c, what + " has changed something", asked, made.get());
    }

    static void same(Checks c, String what, QuiltLaw one, QuiltLaw other) {
        List<String> ones = everything(one);
        List<String> others = everything(other);
        c.due(what + ": length", ones.size(), others.size());
        for (int i = 0; i < ones.size() && i < others.size(); i++) {
            c.yes(what + ": " + ones.get(i) + ", else " + others.get(i), ones.get(i).equals(others.get(i)));
        }
    }

    /** All that an object answers; it is used up by that. Fewer than 400 calls. */
    private static List<String> everything(QuiltLaw x) {
        List<String> all = new ArrayList<>();
        for (int what = 0; what < 9; what++) {
            all.add("count(" + what + ")=" + x.count(what));
        }
        asTexts(x, all);
        asLies(x, all);
        asLayings(x, all);
        for (int liking = x.count(3) - 1; liking >= -1; liking--) {
            x.liking(liking);
            all.add("liking " + liking + ": liked()=" + x.liked());
        }
        for (int n = 0; n < 10 && x.count(7) > 0; n++) {
            all.add("undo()=" + x.undo());
            whereAndHow(x, all);
        }
        all.add("swaps()=" + x.swaps());
        all.add("back()=" + x.back());
        whereAndHow(x, all);
        all.add("text(0)=" + x.text(0));
        all.add("SQUARES " + x.count(2));
        return all;
    }

    private static void asTexts(QuiltLaw x, List<String> all) {
        all.add("fault(0)=" + x.fault(0));
        all.add("fault(1)=" + x.fault(1));
        for (int what = 0; what < 5; what++) {
            all.add("law(" + what + ")=" + x.law(what));
        }
        for (int square = 0; square < x.count(2); square++) {
            for (int what = 0; what < 6; what++) {
                all.add("square(" + square + ", " + what + ")=" + Checks.square(x, square, what));
            }
        }
    }

    private static void whereAndHow(QuiltLaw x, List<String> all) {
        for (int square = 0; square < x.count(2); square++) {
            all.add("CELL of " + square + "=" + Checks.square(x, square, 7));
            all.add("TURNED " + square + "=" + Checks.square(x, square, 6));
        }
    }

    private static void asLies(QuiltLaw x, List<String> all) {
        whereAndHow(x, all);
        for (int cell = 0; cell < 4; cell++) {
            all.add("cell(" + cell + ")=" + x.cell(cell));
            all.add("broken(" + cell + ")=" + x.broken(cell));
            all.add("price(" + cell + ")=" + x.price(cell));
            all.add("patch(" + cell + ", 0)=" + x.patch(cell, 0));
        }
        for (int what = 0; what < 2; what++) {
            all.add("first(" + what + ")=" + x.first(what));
            all.add("weighs(" + what + ")=" + x.weighs(what));
            all.add("won(" + what + ")=" + x.won(what));
            all.add("twist(" + what + ")=" + x.twist(what));
            all.add("dark(" + what + ")=" + x.dark(what));
            all.add("hoard(1, " + what + ")=" + x.hoard(1, what));
        }
        all.add("seams()=" + x.seams());
        all.add("liked()=" + x.liked());
        all.add("mates(0)=" + x.mates(0));
    }

    private static void asLayings(QuiltLaw x, List<String> all) {
        for (int i = -1; i < 2; i++) {
            all.add("layings(" + i + ")=" + x.layings(i));
        }
        for (int what = 0; what < 2; what++) {
            all.add("best(" + what + ")=" + x.best(what));
            all.add("mend(" + what + ")=" + x.mend(what));
            all.add("late(0, 0, " + what + ")=" + x.late(0, 0, what));
        }
        all.add("bars()=" + x.bars());
        all.add("ease()=" + x.ease());
        all.add("one(3)=" + x.one(3));
        all.add("use(0, -1)=" + x.use(0, -1));
        all.add("use(0, 0)=" + x.use(0, 0));
    }
}
