import java.util.function.Supplier;

/** What lies and what it breaks: Term 2, and promises 6 to 18. */
final class LayBoundaries {
    private static final int NONE = -1;
    private static final int HIDDEN = -1000000;

    private final Boundaries b;

    LayBoundaries(Boundaries b) {
        this.b = b;
    }

    void all() {
        cells();
        turned();
        houses();
        shades();
        weights();
        redsAndEdges();
        firsts();
        worths();
        acts();
        square();
        law();
        liking();
        lay();
        take();
        turn();
        undo();
        asked();
    }

    /** A new QUILT with SQUARES in CELLS 0, 1, .. (NONE: left empty). */
    static QuiltLaw laid(String text, int... squares) {
        QuiltLaw x = Checks.quilt(text);
        lay(x, squares);
        return x;
    }

    static void lay(QuiltLaw x, int... squares) {
        for (int cell = 0; cell < squares.length; cell++) {
            if (squares[cell] >= 0) {
                x.lay(cell, squares[cell]);
            }
        }
    }

    static void liesAre(Checks c, QuiltLaw x, int... squares) {
        for (int cell = 0; cell < squares.length; cell++) {
            c.due("cell(" + cell + ")", x.cell(cell), squares[cell]);
        }
    }

    private static void brokenAre(Checks c, QuiltLaw x, int... bits) {
        for (int cell = 0; cell < bits.length; cell++) {
            c.due("broken(" + cell + ")", x.broken(cell), bits[cell]);
        }
    }

    private void cells() {
        b.term(2, "CELLS are numbered by ROWS from above, in a ROW from the left, from 0.", c -> {
            for (int rows = 1; rows <= 3; rows++) {
                for (int columns = 1; columns <= 3; columns++) {
                    QuiltLaw x = Checks.quilt("gr" + rows + "c" + columns + ";s");
                    Checks.take(x, 1, "y:r*10+c");
                    x.liking(0);
                    for (int cell = 0; cell < rows * columns; cell++) {
                        c.due("laid", x.lay(cell, 0) > 0 ? 1 : 0, 1);
                        c.due("ROW and COLUMN of " + cell, x.liked(), cell / columns * 10 + cell % columns);
                        x.take(cell);
                    }
                    c.due("one behind the last", x.lay(rows * columns, 0), NONE);
                    c.due("one ahead of the first", x.lay(-1, 0), NONE);
                }
            }
        });
        b.term(2, "A SQUARE lies in one CELL at most, a CELL has one SQUARE at most.", c -> {
            QuiltLaw x = laid("s;s", 0);
            c.due("the SQUARE in a second CELL", x.lay(3, 0), NONE);
            c.due("a second SQUARE in the CELL", x.lay(0, 1), NONE);
            liesAre(c, x, 0, NONE, NONE, NONE);
        });
    }

    private void turned() {
        b.term(2, "A SQUARE is TURNED (0 .. 3 quarters, with the clock; 0 at first): its marks go round with it.", c -> {
            QuiltLaw x = Checks.quilt("se1234;se1234");
            c.due("at first", Checks.square(x, 0, 6), 0);
            int[] marks = {1234, 4123, 3412, 2341};
            for (int turn : new int[] {1, 2, 3, 0, 3, 2, 1, 0, 2, 0}) {
                x.turn(0, turn);
                c.due("TURNED", Checks.square(x, 0, 6), turn);
                c.due("marks", Checks.square(x, 0, 5), marks[turn]);
                c.due("of the other one", Checks.square(x, 1, 5), 1234);
            }
            c.due("four quarters are none", x.turn(0, 4), NONE);
            c.due("one against the clock is none", x.turn(0, -1), NONE);
        });
    }

    private void houses() {
        b.term(2, "A CELL that is laid BREAKS a LAW:", c -> {
            QuiltLaw x = laid("gr1c3;s;s;s", 0, NONE, 1);
            brokenAre(c, x, 0, NONE, 0);
            x.lay(1, 2);
            brokenAre(c, x, 0, 1, 1);
        });
        b.term(2, "0, with HOUSES 1: the SQUARE to its left, or above, is of its HOUSE.", c -> {
            QuiltLaw x = laid("gr2c2;sh1;sh1;sh2;sh1", 0, 1, 2, 3);
            brokenAre(c, x, 0, 1, 0, 1);
            x.change(0, 0);
            brokenAre(c, x, 0, 0, 0, 0);
            brokenAre(c, laid("gr2c2;sh1;sh1;sh1", NONE, 0, 1, NONE), NONE, 0, 0, NONE);
            brokenAre(c, laid("gr3c1;sh1;sh1;sh1", 0, NONE, 1), 0, NONE, 0);
            brokenAre(c, laid("gr2c2;sh2;sh1;sh1;sh2", 0, 1, 2, 3), 0, 0, 0, 0);
            brokenAre(c, laid("gr2c1;sh0;sh0", 0, 1), 0, 1);
        });
    }

    private void shades() {
        b.term(2, "1, with SHADES 1: its SHADE is above that to its left;", c -> {
            brokenAre(c, laid("gr1c2;lh0s1;sd3;sd3", 0, 1), 0, 0);
            brokenAre(c, laid("gr1c2;lh0s1;sd3;sd4", 0, 1), 0, 2);
            brokenAre(c, laid("gr1c2;lh0s1;sd4;sd3", 0, 1), 0, 0);
            brokenAre(c, laid("gr1c2;lh0s0;sd3;sd4", 0, 1), 0, 0);
            brokenAre(c, laid("gr2c1;lh0s1;sd3;sd4", 0, 1), 0, 0);
            brokenAre(c, laid("gr1c2;lh0s1;sd0;sd9", 0, 1), 0, 2);
        });
        b.term(2, "with 2: or above that of the one above it, too.", c -> {
            brokenAre(c, laid("gr2c1;lh0s2;sd3;sd3", 0, 1), 0, 0);
            brokenAre(c, laid("gr2c1;lh0s2;sd3;sd4", 0, 1), 0, 2);
            brokenAre(c, laid("gr2c1;lh0s2;sd4;sd3", 0, 1), 0, 0);
            brokenAre(c, laid("gr1c2;lh0s2;sd3;sd4", 0, 1), 0, 2);
            brokenAre(c, laid("gr2c2;lh0s2;sd3;sd3;sd4;sd4", 0, 1, 2, 3), 0, 0, 2, 2);
        });
    }

    private void weights() {
        b.term(2, "2: it is the last of its ROW, the ROW is full, and some full ROW ahead of it weighs more than WEIGHTS more or less", c -> {
            for (int weights = 0; weights < 9; weights++) {
                String ground = "gr2c2;lh0w" + weights;
                String same = ";sw0;sw0;sw0;sw" + weights;
                String more = ";sw0;sw0;sw0;sw" + (weights + 1);
                brokenAre(c, laid(ground + same, 0, 1, 2, 3), 0, 0, 0, 0);
                brokenAre(c, laid(ground + same, 2, 3, 0, 1), 0, 0, 0, 0);
                brokenAre(c, laid(ground + more, 0, 1, 2, 3), 0, 0, 0, 4);
                brokenAre(c, laid(ground + more, 0, 1, 3, 2), 0, 0, 0, 4);
                brokenAre(c, laid(ground + more, 2, 3, 0, 1), 0, 0, 0, 4);
            }
            brokenAre(c, laid("gr2c2;lh0w0;sw0;sw0;sw9;sw9", 0, 1, NONE, 3), 0, 0, NONE, 0);
            brokenAre(c, laid("gr2c2;lh0w0;sw0;sw0;sw9;sw9", 0, 1, 2, NONE), 0, 0, 0, NONE);
            brokenAre(c, laid("gr2c2;lh0w0;sw0;sw0;sw9;sw9", NONE, 1, 2, 3), NONE, 0, 0, 0);
            brokenAre(c, laid("gr2c2;lh0w0;sw0;sw0;sw9;sw9", 0, NONE, 2, 3), 0, NONE, 0, 0);
            brokenAre(c, laid("gr3c1;lh0w1;sw2;sw2;sw4", 0, 1, 2), 0, 0, 4);
            brokenAre(c, laid("gr3c1;lh0w1;sw2;sw4;sw4", 0, 1, 2), 0, 4, 4);
            brokenAre(c, laid("gr3c1;lh0w1;sw4;sw2;sw4", 0, 1, 2), 0, 4, 4);
            brokenAre(c, laid("gr3c1;lh0w1;sw3;sw4;sw2", 0, 1, 2), 0, 0, 4);
            brokenAre(c, laid("gr3c1;lh0w1;sw2;sw4;sw4", 0, NONE, 2), 0, NONE, 4);
            brokenAre(c, laid("gr3c1;lh0w1;sw2;sw4;sw4", NONE, 1, 2), NONE, 0, 0);
            brokenAre(c, laid("gr1c2;lh0w0;sw9;sw0", 0, 1), 0, 0);
        });
        b.term(2, "(WEIGHTS 9: this is not asked).", c -> {
            brokenAre(c, laid("gr2c1;lh0w8;sw0;sw9", 0, 1), 0, 4);
            brokenAre(c, laid("gr2c1;lh0w9;sw0;sw9", 0, 1), 0, 0);
            brokenAre(c, laid("gr2c2;lh0w9;sw0;sw0;sw9;sw9", 0, 1, 2, 3), 0, 0, 0, 0);
            c.due("18 apart are in the LAYINGS, too", laid("gr2c2;lh0w9;sw0;sw0;sw9;sw9", 0, 1).layings(NONE), 2);
            c.due("with 8 they are not", laid("gr2c2;lh0w8;sw0;sw0;sw9;sw9", 0, 1).layings(NONE), 0);
        });
    }

    private void redsAndEdges() {
        b.term(2, "3, with REDS 1: one of it and of the one to its left, or above, is red, the other a widow's.", c -> {
            for (int one = 0; one <= 2; one++) {
                for (int other = 0; other <= 2; other++) {
                    int due = one + other == 3 ? 8 : 0;
                    String both = "sk" + one + ";sk" + other;
                    brokenAre(c, laid("gr1c2;lh0r1;" + both, 0, 1), 0, due);
                    brokenAre(c, laid("gr2c1;lh0r1;" + both, 0, 1), 0, due);
                    brokenAre(c, laid("gr1c2;lh0r0;" + both, 0, 1), 0, 0);
                    brokenAre(c, laid("gr2c2;lh0r1;" + both, 0, NONE, NONE, 1), 0, NONE, NONE, 0);
                }
            }
        });
        b.term(2, "4, with EDGES 1: marks that touch are unlike, to its left or above.", c -> {
            brokenAre(c, laid("gr1c2;lh0e1;se9799;se8887", 0, 1), 0, 0);
            brokenAre(c, laid("gr1c2;lh0e1;se9799;se8886", 0, 1), 0, 16);
            brokenAre(c, laid("gr1c2;lh0e0;se9799;se8886", 0, 1), 0, 0);
            brokenAre(c, laid("gr2c1;lh0e1;se9979;se7888", 0, 1), 0, 0);
            brokenAre(c, laid("gr2c1;lh0e1;se9979;se6888", 0, 1), 0, 16);
            brokenAre(c, laid("gr2c2;lh0e1;se9979;se0000;se0000;se6888", 0, NONE, NONE, 3), 0, NONE, NONE, 0);
            QuiltLaw x = laid("gr1c2;lh0e1;se9799;se8786", 0, 1);
            brokenAre(c, x, 0, 16);
            x.turn(1, 2);
            brokenAre(c, x, 0, 0);
        });
    }

    private void firsts() {
        b.term(2, "A quilt is LAWFUL, if no CELL BREAKS a LAW.", c -> {
            c.due("nothing lies", Checks.quilt("s").first(0), NONE);
            c.due("one alone", laid("gr1c1;ls2w0r1e1;s", 0).first(0), NONE);
            c.due("one that breaks", laid("gr1c2;s;s", 0, 1).first(0), 1);
        });
        b.term(2, "FIRST: the lowest CELL that BREAKS one, the lowest LAW that it does.", c -> {
            QuiltLaw x = laid("gr2c2;ls1r1;sh1d4;sh2d5;sh3k1;sh3k2", 0, 1, 2, 3);
            brokenAre(c, x, 0, 2, 0, 9);
            c.due("CELL", x.first(0), 1);
            c.due("LAW", x.first(1), 1);
            x.change(1, 0);
            c.due("the next CELL", x.first(0), 3);
            c.due("its lowest LAW", x.first(1), 0);
            x.change(0, 0);
            c.due("its next LAW", x.first(1), 3);
            for (int law = 0; law < 5; law++) {
                QuiltLaw all = laid("gr2c1;ls2w0r1e1;sh1d1w1k1e0010;sh1d2w2k2e2000", 0, 1);
                brokenAre(c, all, 0, 31);
                for (int off = 0; off < law; off++) {
                    all.change(off, off == 2 ? 9 : 0);
                }
                brokenAre(c, all, 0, 31 >> law << law);
                c.due("the lowest that is left", all.first(1), law);
            }
            brokenAre(c, laid("gr1c2;ls1r1e1;sh1d1k1e0100;sh1d2k2e0002", 0, 1), 0, 27);
        });
    }

    private void worths() {
        b.term(2, "LIKING of a SQUARE in a CELL: WORTH of the one that holds (none at first: its LIKED);", c -> {
            QuiltLaw x = laid("sl7;s", 0);
            c.due("none at first", x.count(6), NONE);
            c.due("its LIKED", x.liked(), 7);
            Checks.take(x, 1, "y:40");
            Checks.take(x, 1, "y:50");
            c.due("still none", x.liked(), 7);
            x.liking(1);
            c.due("WORTH", x.liked(), 50);
            x.liking(0);
            c.due("of the other one", x.liked(), 40);
            x.liking(NONE);
            c.due("its LIKED again", x.liked(), 7);
        });
        b.term(2, "letters: r ROW, c COLUMN, h HOUSE, d SHADE, w WEIGHT, k COLOUR, l LIKED.", c -> {
            int[] told = {1, 2, 3, 4, 6, 2, 8};
            for (int letter = 0; letter < 7; letter++) {
                QuiltLaw x = Checks.quilt("gr3c3;s;sh3d4w6k2l8");
                Checks.take(x, 1, "y:" + "rchdwkl".charAt(letter));
                x.liking(0);
                x.lay(5, 1);
                c.due("letter " + letter, x.liked(), told[letter]);
                x.take(5);
                x.lay(8, 0);
                c.due("letter " + letter, x.liked(), new int[] {2, 2, 0, 5, 1, 0, 1}[letter]);
            }
        });
    }

    private static void turnTo(QuiltLaw x, int acts) {
        for (int n = 1; n <= acts; n++) {
            x.turn(n % 2, (n + 1) / 2 % 4);
        }
    }

    private void acts() {
        b.term(2, "SQUARES laid, taken, TURNED, a LOT laid are ACTS:", c -> {
            QuiltLaw x = Checks.quilt("s;s;s;s");
            Checks.take(x, 1, "y:1");
            c.due("laid", x.lay(0, 0), 1);
            c.due("TURNED", x.turn(0, 1), 2);
            c.due("taken", x.take(0), 3);
            c.due("a LOT", x.lot(1), 4);
            x.change(0, 0);
            x.liking(0);
            x.bid(0, 0, 3);
            x.image();
            Checks.feed(x, "s");
            x.end(0);
            Checks.take(x, 1, "y:2");
            c.due("nothing else is one", x.count(7), 4);
            c.due("a LOT UNDONE", x.undo(), 3);
            c.due("nothing lies", x.count(5), 0);
            c.due("the taken one UNDONE", x.undo(), 2);
            c.due("lies again", x.cell(0), 0);
            c.due("the TURNED one UNDONE", x.undo(), 1);
            c.due("as it was", Checks.square(x, 0, 6), 0);
            c.due("the laid one UNDONE", x.undo(), 0);
            c.due("empty", x.cell(0), NONE);
        });
        b.term(2, "the latest (40 at most) can be UNDONE one by one.", c -> {
            for (int acts : new int[] {39, 40, 41, 42, 80, 81, 95}) {
                QuiltLaw x = Checks.quilt("s;s");
                turnTo(x, acts);
                int kept = Math.min(acts, 40);
                c.due("of " + acts, x.count(7), kept);
                for (int n = kept - 1; n >= 0; n--) {
                    c.due("UNDONE", x.undo(), n);
                }
                c.due("no more", x.undo(), NONE);
                QuiltLaw other = Checks.quilt("s;s");
                turnTo(other, acts - kept);
                c.due("as ahead of the oldest kept", Checks.square(x, 0, 6), Checks.square(other, 0, 6));
                c.due("as ahead of the oldest kept", Checks.square(x, 1, 6), Checks.square(other, 1, 6));
                c.due("an ACT then", x.lay(0, 0), 1);
            }
        });
    }

    private static void noneToAsk(Checks c, String what, Twins.Call call) {
        Twins.refused(c, what, NONE, call);
    }

    private void square() {
        b.promise(6, "Of a SQUARE: 0 HOUSE, 1 SHADE, 2 WEIGHT, 3 COLOUR, 4 LIKED,", c -> {
            QuiltLaw x = Checks.quilt("s;sh9d8w7k2l6;sh1d0w2k1l3;s;s;s;s;sl9k0w8d7h6");
            int[][] told = {{0, 5, 1, 0, 1}, {9, 8, 7, 2, 6}, {1, 0, 2, 1, 3}, {0, 5, 1, 0, 1}, {6, 7, 8, 0, 9}};
            for (int what = 0; what < 5; what++) {
                for (int n = 0; n < 5; n++) {
                    c.due("what " + what, Checks.square(x, n < 4 ? n : 7, what), told[n][what]);
                }
            }
        });
        b.promise(6, "5 EDGES as it is TURNED (digits),", c -> {
            QuiltLaw x = Checks.quilt("se0987");
            c.due("no digit for 0 ahead", Checks.square(x, 0, 5), 987);
            x.turn(0, 1);
            c.due("TURNED", Checks.square(x, 0, 5), 7098);
            x.undo();
            c.due("UNDONE", Checks.square(x, 0, 5), 987);
        });
        b.promise(6, "6 how it is TURNED,", c -> {
            QuiltLaw x = Checks.quilt("s;s");
            x.turn(1, 3);
            c.due("TURNED", Checks.square(x, 1, 6), 3);
            c.due("the other one", Checks.square(x, 0, 6), 0);
        });
        b.promise(6, "7 its CELL (NONE).", c -> {
            QuiltLaw x = laid("gr3c3;s;s;s", 2);
            x.lay(8, 0);
            c.due("the first", Checks.square(x, 2, 7), 0);
            c.due("the last", Checks.square(x, 0, 7), 8);
            c.due("does not lie", Checks.square(x, 1, 7), NONE);
            x.take(8);
            c.due("taken", Checks.square(x, 0, 7), NONE);
        });
        b.promise(6, "NoSuchElementException: no such ones.", c -> {
            for (int what = 0; what < 8; what++) {
                int which = what;
                Twins.refused(c, "square(-1, " + what + ")", Checks.THROWN, x -> Checks.square(x, -1, which));
                Twins.refused(c, "square(5, " + what + ")", Checks.THROWN, x -> Checks.square(x, 5, which));
                Twins.refusedWithoutQuilt(c, "square(0, " + what + ")", Checks.THROWN, x -> Checks.square(x, 0, which));
            }
            Twins.refused(c, "square(0, -1)", Checks.THROWN, x -> Checks.square(x, 0, -1));
            Twins.refused(c, "square(0, 8)", Checks.THROWN, x -> Checks.square(x, 0, 8));
            Twins.refused(c, "square(4, 8)", Checks.THROWN, x -> Checks.square(x, 4, 8));
            for (int v : Twins.WILD) {
                Twins.refused(c, "square(" + v + ", 0)", Checks.THROWN, x -> Checks.square(x, v, 0));
                Twins.refused(c, "square(0, " + v + ")", Checks.THROWN, x -> Checks.square(x, 0, v));
            }
            c.due("behind eight", Checks.square(Checks.quilt("s;s;s;s;s;s;s;s"), 8, 0), Checks.THROWN);
            c.due("the eighth", Checks.square(Checks.quilt("s;s;s;s;s;s;s;s"), 7, 0), 0);
        });
    }

    private void law() {
        b.promise(7, "The LAW: 0 HOUSES, 1 SHADES, 2 WEIGHTS, 3 REDS, 4 EDGES.", c -> {
            QuiltLaw x = Checks.quilt("s;lh0s2w7r1e1");
            int[] told = {0, 2, 7, 1, 1};
            for (int what = 0; what < 5; what++) {
                c.due("law(" + what + ")", x.law(what), told[what]);
            }
        });
        b.promise(7, "NONE: no QUILT,", c -> {
            for (int what = 0; what < 5; what++) {
                int which = what;
                Twins.refusedWithoutQuilt(c, "law(" + what + ")", NONE, x -> x.law(which));
            }
        });
        b.promise(7, "no such what.", c -> {
            noneToAsk(c, "law(-1)", x -> x.law(-1));
            noneToAsk(c, "law(5)", x -> x.law(5));
            for (int v : Twins.WILD) {
                noneToAsk(c, "law(" + v + ")", x -> x.law(v));
            }
        });
        b.promise(8, "The LAW is changed.", c -> {
            int[] highest = {1, 2, 9, 1, 1};
            for (int what = 0; what < 5; what++) {
                QuiltLaw x = Checks.quilt("s");
                int[] told = {1, 0, 9, 0, 0};
                for (int v = highest[what]; v >= 0; v--) {
                    c.yes("to " + v, x.change(what, v));
                    c.yes("as it is", x.change(what, v));
                    told[what] = v;
                    for (int other = 0; other < 5; other++) {
                        c.due("law(" + other + ")", x.law(other), told[other]);
                    }
                }
            }
            QuiltLaw x = laid("gr1c2;s;s", 0, 1);
            c.due("broken", x.broken(1), 1);
            c.due("no LAYING", x.layings(NONE), 0);
            x.change(0, 0);
            c.due("not any more", x.broken(1), 0);
            c.due("a LAYING", x.layings(NONE), 1);
        });
        b.promise(8, "False: no QUILT,", c -> {
            for (int what = 0; what < 5; what++) {
                int which = what;
                Twins.refusedWithoutQuilt(c, "change(" + what + ", 1)", 0, x -> x.change(which, 1) ? 1 : 0);
            }
        });
        b.promise(8, "out of bounds.", c -> {
            int[] highest = {1, 2, 9, 1, 1};
            for (int what = 0; what < 5; what++) {
                int which = what;
                Twins.refused(c, "below", 0, x -> x.change(which, -1) ? 1 : 0);
                Twins.refused(c, "above", 0, x -> x.change(which, highest[which] + 1) ? 1 : 0);
                for (int v : Twins.WILD) {
                    Twins.refused(c, "change(" + which + ", " + v + ")", 0, x -> x.change(which, v) ? 1 : 0);
                }
            }
            Twins.refused(c, "change(-1, 0)", 0, x -> x.change(-1, 0) ? 1 : 0);
            Twins.refused(c, "change(5, 0)", 0, x -> x.change(5, 0) ? 1 : 0);
            for (int v : Twins.WILD) {
                Twins.refused(c, "change(" + v + ", 0)", 0, x -> x.change(v, 0) ? 1 : 0);
            }
        });
    }

    private void liking() {
        b.promise(9, "The LIKING that holds (NONE: none).", c -> {
            QuiltLaw x = new QuiltLaw();
            c.yes("none of none", x.liking(NONE));
            for (int n = 0; n < 4; n++) {
                Checks.take(x, 1, "y:" + n);
                c.yes("the newest", x.liking(n));
                c.due("it holds", x.count(6), n);
            }
            c.yes("the first again", x.liking(0));
            c.due("it holds", x.count(6), 0);
            c.yes("none", x.liking(NONE));
            c.due("none holds", x.count(6), NONE);
        });
        b.promise(9, "False: no such one.", c -> {
            Twins.refused(c, "liking(2) of two", 0, x -> x.liking(2) ? 1 : 0);
            Twins.refused(c, "liking(-2)", 0, x -> x.liking(-2) ? 1 : 0);
            for (int v : Twins.WILD) {
                Twins.refused(c, "liking(" + v + ")", 0, x -> x.liking(v) ? 1 : 0);
            }
            c.no("liking(0) of none", new QuiltLaw().liking(0));
            QuiltLaw four = new QuiltLaw();
            for (int n = 0; n < 4; n++) {
                Checks.take(four, 1, "y:1");
            }
            c.no("liking(4) of four", four.liking(4));
            c.yes("liking(3) of four", four.liking(3));
        });
    }

    private void lay() {
        b.promise(10, "A SQUARE is laid: how many ACTS can be UNDONE.", c -> {
            QuiltLaw x = Checks.quilt("gr3c3;s;s;s;s;s;s;s;s");
            for (int n = 0; n < 8; n++) {
                c.due("laid", x.lay(8 - n, n), n + 1);
                c.due("lies", x.cell(8 - n), n);
                c.due("in its CELL", Checks.square(x, n, 7), 8 - n);
            }
            QuiltLaw full = Checks.quilt("s;s");
            turnTo(full, 40);
            c.due("the forty-first", full.lay(0, 0), 40);
        });
        b.promise(10, "NONE: no such ones,", c -> {
            noneToAsk(c, "lay(-1, 0)", x -> x.lay(-1, 0));
            noneToAsk(c, "lay(4, 0)", x -> x.lay(4, 0));
            noneToAsk(c, "lay(0, -1)", x -> x.lay(0, -1));
            noneToAsk(c, "lay(0, 5)", x -> x.lay(0, 5));
            for (int v : Twins.WILD) {
                noneToAsk(c, "lay(" + v + ", 0)", x -> x.lay(v, 0));
                noneToAsk(c, "lay(0, " + v + ")", x -> x.lay(0, v));
            }
            Twins.refusedWithoutQuilt(c, "lay(0, 0)", NONE, x -> x.lay(0, 0));
        });
        b.promise(10, "the CELL is laid,", c -> {
            noneToAsk(c, "lay(1, 0)", x -> x.lay(1, 0));
            noneToAsk(c, "lay(3, 0)", x -> x.lay(3, 0));
            noneToAsk(c, "the same SQUARE there", x -> x.lay(1, 4));
        });
        b.promise(10, "the SQUARE lies.", c -> {
            noneToAsk(c, "lay(0, 4)", x -> x.lay(0, 4));
            noneToAsk(c, "lay(2, 2)", x -> x.lay(2, 2));
        });
    }

    private void take() {
        b.promise(11, "A CELL is emptied: how many ACTS can be UNDONE.", c -> {
            QuiltLaw x = laid("gr1c3;s;s;s", 0, 1, 2);
            c.due("taken", x.take(2), 4);
            c.due("empty", x.cell(2), NONE);
            c.due("taken", x.take(0), 5);
            liesAre(c, x, NONE, 1, NONE);
            c.due("it can be laid again", x.lay(2, 0), 6);
            QuiltLaw full = laid("s;s", 0);
            turnTo(full, 39);
            c.due("the forty-first", full.take(0), 40);
        });
        b.promise(11, "NONE: no such one,", c -> {
            noneToAsk(c, "take(-1)", x -> x.take(-1));
            noneToAsk(c, "take(4)", x -> x.take(4));
            for (int v : Twins.WILD) {
                noneToAsk(c, "take(" + v + ")", x -> x.take(v));
            }
            Twins.refusedWithoutQuilt(c, "take(0)", NONE, x -> x.take(0));
        });
        b.promise(11, "it is empty.", c -> {
            noneToAsk(c, "take(0)", x -> x.take(0));
            noneToAsk(c, "take(2)", x -> x.take(2));
        });
    }

    private void turn() {
        b.promise(12, "A SQUARE is TURNED: how many ACTS can be UNDONE.", c -> {
            QuiltLaw x = laid("gr1c2;s;s", 1);
            c.due("one that lies", x.turn(1, 3), 2);
            c.due("one that does not", x.turn(0, 1), 3);
            c.due("back again", x.turn(0, 0), 4);
            c.due("TURNED", Checks.square(x, 1, 6), 3);
            c.due("TURNED", Checks.square(x, 0, 6), 0);
            liesAre(c, x, 1, NONE);
            QuiltLaw full = Checks.quilt("s;s");
            turnTo(full, 40);
            c.due("the forty-first", full.turn(1, 3), 40);
        });
        b.promise(12, "NONE: no such ones,", c -> {
            noneToAsk(c, "turn(-1, 1)", x -> x.turn(-1, 1));
            noneToAsk(c, "turn(5, 1)", x -> x.turn(5, 1));
            noneToAsk(c, "turn(3, -1)", x -> x.turn(3, -1));
            noneToAsk(c, "turn(3, 4)", x -> x.turn(3, 4));
            for (int v : Twins.WILD) {
                noneToAsk(c, "turn(" + v + ", 1)", x -> x.turn(v, 1));
                noneToAsk(c, "turn(3, " + v + ")", x -> x.turn(3, v));
            }
            Twins.refusedWithoutQuilt(c, "turn(0, 1)", NONE, x -> x.turn(0, 1));
        });
        b.promise(12, "it is so.", c -> {
            int[] turns = {1, 2, 3, 0, 0};
            for (int square = 0; square < 5; square++) {
                int which = square;
                noneToAsk(c, "turn(" + square + ", " + turns[square] + ")", x -> x.turn(which, turns[which]));
            }
        });
    }

    private void undo() {
        b.promise(13, "The latest ACT is UNDONE: how many still can be.", c -> {
            QuiltLaw x = laid("gr1c3;lh0;s;s;s", 2, 0);
            x.turn(0, 2);
            x.take(0);
            x.lot(5);
            c.due("LAYINGS ahead of it", x.layings(NONE), 1);
            c.due("the LOT", x.undo(), 4);
            liesAre(c, x, NONE, 0, NONE);
            c.due("LAYINGS behind it", x.layings(NONE), 2);
            c.due("the taken one", x.undo(), 3);
            liesAre(c, x, 2, 0, NONE);
            c.due("LAYINGS behind it", x.layings(NONE), 1);
            c.due("the TURNED one", x.undo(), 2);
            c.due("as it was", Checks.square(x, 0, 6), 0);
            c.due("a laid one", x.undo(), 1);
            liesAre(c, x, 2, NONE, NONE);
            c.due("an ACT on top", x.lay(2, 1), 2);
            c.due("that one first", x.undo(), 1);
            liesAre(c, x, 2, NONE, NONE);
            c.due("the oldest", x.undo(), 0);
            liesAre(c, x, NONE, NONE, NONE);
            c.due("LAYINGS again", x.layings(NONE), 6);
            x.lay(0, 1);
            c.due("LAYINGS with SQUARE 1 there", x.layings(0), 102);
            x.undo();
            x.lay(0, 2);
            c.due("LAYINGS with SQUARE 2 there", x.layings(0), 201);
        });
        b.promise(13, "NONE: none.", c -> {
            Twins.refusedWithoutQuilt(c, "without a QUILT", NONE, QuiltLaw::undo);
            Supplier<QuiltLaw> imaged = () -> {
                QuiltLaw x = Twins.rich();
                x.back();
                x.change(0, 0);
                return x;
            };
            Twins.refused(c, "brought BACK", imaged, NONE, QuiltLaw::undo);
            Twins.refused(c, "a new QUILT", () -> Checks.quilt("s;s"), NONE, QuiltLaw::undo);
            QuiltLaw x = laid("s", 0);
            x.undo();
            c.due("all are UNDONE", x.undo(), NONE);
        });
    }

    private void asked() {
        b.promise(14, "The SQUARE of a CELL.", c -> {
            QuiltLaw x = laid("gr3c3;s;s;s;s;s;s;s;s", 7, 6, 5, 4, 3, 2, 1, 0);
            liesAre(c, x, 7, 6, 5, 4, 3, 2, 1, 0, NONE);
        });
        b.promise(14, "NONE: it is empty,", c -> {
            noneToAsk(c, "cell(0)", x -> x.cell(0));
            noneToAsk(c, "cell(2)", x -> x.cell(2));
        });
        noSuchCell(14, QuiltLaw::cell);
        b.promise(15, "LAWS that a CELL BREAKS, as bits.", c -> {
            brokenAre(c, laid("gr1c3;ls1;s;s;sh1d6", 0, 1, 2), 0, 1, 2);
            brokenAre(c, laid("gr1c3;ls1;s;s;sh1d6", 0, 2, 1), 0, 2, 0);
        });
        b.promise(15, "NONE: it is empty,", c -> {
            noneToAsk(c, "broken(0)", x -> x.broken(0));
            noneToAsk(c, "broken(2)", x -> x.broken(2));
        });
        noSuchCell(15, QuiltLaw::broken);
        b.promise(16, "FIRST: the CELL (0), the LAW (1).", c -> {
            QuiltLaw x = laid("gr1c3;ls1;s;sh1d6;sh1", 0, 1, 2);
            c.due("CELL", x.first(0), 1);
            c.due("LAW", x.first(1), 1);
        });
        b.promise(16, "NONE: the quilt is LAWFUL,", c -> {
            for (int what = 0; what < 2; what++) {
                int which = what;
                Twins.refused(c, "first(" + what + ")", () -> laid("gr1c2;sh1;sh2", 0, 1), NONE, x -> x.first(which));
                Twins.refused(c, "nothing lies: first(" + what + ")", () -> Checks.quilt("s"), NONE, x -> x.first(which));
            }
        });
        b.promise(16, "no QUILT,", c -> {
            Twins.refusedWithoutQuilt(c, "first(0)", NONE, x -> x.first(0));
            Twins.refusedWithoutQuilt(c, "first(1)", NONE, x -> x.first(1));
        });
        b.promise(16, "no such what.", c -> {
            Supplier<QuiltLaw> broken = () -> laid("gr1c2;s;s", 0, 1);
            Twins.refused(c, "first(-1)", broken, NONE, x -> x.first(-1));
            Twins.refused(c, "first(2)", broken, NONE, x -> x.first(2));
            for (int v : Twins.WILD) {
                Twins.refused(c, "first(" + v + ")", broken, NONE, x -> x.first(v));
            }
        });
        b.promise(17, "LIKINGS of all that lie together.", c -> {
            c.due("nothing lies", Checks.quilt("sl9").liked(), 0);
            c.due("LIKED", laid("gr3c3;sl9;sl8;sl7;sl6;sl5;sl4;sl3;sl2", 0, 1, 2, 3, 4, 5, 6, 7).liked(), 44);
            c.due("but one", laid("gr3c3;sl9;sl8;sl7;sl6;sl5;sl4;sl3;sl2", 0, 1, 2, 3, NONE, 5, 6, 7).liked(), 39);
            QuiltLaw x = laid("gr3c3;s;s;s;s;s;s;s;s", 0, 1, 2, 3, 4, 5, 6, 7);
            Checks.take(x, 1, "y:0-9999*9999");
            x.liking(0);
            c.due("together they may be below -1,000,000", x.liked(), -8000000);
        });
        b.promise(17, "HIDDEN: no QUILT.", c -> Twins.refusedWithoutQuilt(c, "liked()", HIDDEN, QuiltLaw::liked));
        b.promise(18, "What a ROW weighs (those that lie).", c -> {
            QuiltLaw x = laid("gr3c3;sw9;sw9;sw9;sw0;sw4;sw3;sw8;sw8", 0, 1, 2, NONE, 3, 4);
            c.due("a full one", x.weighs(0), 27);
            c.due("not a full one", x.weighs(1), 4);
            c.due("an empty one", x.weighs(2), 0);
        });
        b.promise(18, "NONE: no such one.", c -> {
            noneToAsk(c, "weighs(-1)", x -> x.weighs(-1));
            noneToAsk(c, "weighs(2)", x -> x.weighs(2));
            for (int v : Twins.WILD) {
                noneToAsk(c, "weighs(" + v + ")", x -> x.weighs(v));
            }
            Twins.refusedWithoutQuilt(c, "weighs(0)", NONE, x -> x.weighs(0));
            c.due("one ROW", Checks.quilt("gr1c3;s").weighs(1), NONE);
            c.due("three ROWS", Checks.quilt("gr3c1;s").weighs(2), 0);
            c.due("three ROWS", Checks.quilt("gr3c1;s").weighs(3), NONE);
        });
    }

    private interface OfCell {
        int of(QuiltLaw x, int cell);
    }

    private void noSuchCell(int promise, OfCell call) {
        b.promise(promise, "no such one.", c -> {
            noneToAsk(c, "-1", x -> call.of(x, -1));
            noneToAsk(c, "4", x -> call.of(x, 4));
            for (int v : Twins.WILD) {
                noneToAsk(c, "" + v, x -> call.of(x, v));
            }
            Twins.refusedWithoutQuilt(c, "0", NONE, x -> call.of(x, 0));
        });
    }
}
