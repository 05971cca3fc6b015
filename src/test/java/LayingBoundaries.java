/** What can become of a quilt: Term 3, and promises 19 to 30 and 37 to 39. */
final class LayingBoundaries {
    private static final int NONE = -1;
    private static final int HIDDEN = -1000000;
    private static final long[] SEEDS = {0, 1, 2, -1, Long.MAX_VALUE, Long.MIN_VALUE, 5, 9};
    private static final String EIGHT = "s;s;s;s;s;s;s;s";

    private final Boundaries b;

    LayingBoundaries(Boundaries b) {
        this.b = b;
    }

    void all() {
        layings();
        best();
        bars();
        mates();
        late();
        twist();
        patch();
        corners();
        won();
        draws();
        lot();
        image();
        swaps();
        matesAndLayingsAsked();
        bestAndBarsAsked();
        lateAndTwistAsked();
        patchAsked();
        bidsAsked();
        drawsAsked();
        imagesAsked();
    }

    private static QuiltLaw laid(String text, int... squares) {
        return LayBoundaries.laid(text, squares);
    }

    private static void layingsAre(Checks c, QuiltLaw x, int... codes) {
        c.due("how many", x.layings(NONE), codes.length);
        for (int i = 0; i < codes.length; i++) {
            c.due("layings(" + i + ")", x.layings(i), codes[i]);
        }
        c.due("behind the last", x.layings(codes.length), NONE);
    }

    private static QuiltLaw liking(QuiltLaw x, String text) {
        Checks.take(x, 1, text);
        x.liking(x.count(3) - 1);
        return x;
    }

    private void layings() {
        b.term(3, "LAYINGS: all LAWFUL ones of all CELLS", c -> {
            layingsAre(c, Checks.quilt("gr1c1;s"), 0);
            layingsAre(c, Checks.quilt("gr1c1;s;s"), 0, 1);
            layingsAre(c, Checks.quilt("gr1c2;s"));
            layingsAre(c, Checks.quilt("gr1c2;s;s"));
            layingsAre(c, Checks.quilt("gr1c2;s;sh1"), 1, 10);
            layingsAre(c, Checks.quilt("lh0;s;s;s"));
            layingsAre(c, Checks.quilt("gr3c3;lh0;" + EIGHT));
            layingsAre(c, Checks.quilt("gr1c2;lh0s1;sd1;sd2"), 10);
            layingsAre(c, Checks.quilt("gr2c1;lh0s1;sd1;sd2"), 1, 10);
            layingsAre(c, Checks.quilt("gr2c1;lh0s2;sd1;sd2"), 10);
            layingsAre(c, Checks.quilt("gr2c1;lh0w1;sw1;sw2;sw3"), 1, 10, 12, 21);
            layingsAre(c, Checks.quilt("gr1c2;lh0r1;sk1;sk2;s"), 2, 12, 20, 21);
            layingsAre(c, Checks.quilt("gr1c2;lh0e1;se0100;se0001"), 1, 10);
            layingsAre(c, Checks.quilt("gr1c2;lh0e1;se0100;se0002"), 10);
            c.due("eight in six", Checks.quilt("gr2c3;lh0;" + EIGHT).layings(NONE), 20160);
            c.due("eight in six", Checks.quilt("gr3c2;lh0;" + EIGHT).layings(NONE), 20160);
            c.due("eight in four", Checks.quilt("lh0;" + EIGHT).layings(NONE), 1680);
        });
        b.term(3, "(digits to the base 10: the SQUARE of each CELL, CELL 0 the highest)", c -> {
            QuiltLaw x = Checks.quilt("gr1c3;lh0;" + EIGHT);
            c.due("0 ahead is no digit", x.layings(0), 12);
            c.due("the last", x.layings(335), 765);
            QuiltLaw six = Checks.quilt("gr2c3;lh0;" + EIGHT);
            c.due("the first of six", six.layings(0), 12345);
            c.due("the last of six", six.layings(20159), 765432);
        });
        b.term(3, "in which those that lie stay,", c -> {
            layingsAre(c, laid("lh0;s;s;s;s", NONE, NONE, NONE, 0), 1230, 1320, 2130, 2310, 3120, 3210);
            layingsAre(c, laid("lh0;s;s;s;s", 3, NONE, NONE, 0), 3120, 3210);
            layingsAre(c, laid("gr1c3;lh0;s;s;s", NONE, NONE, 1), 21, 201);
            layingsAre(c, laid("lh0;s;s;s;s", 3, 1, 2, 0), 3120);
            layingsAre(c, laid("gr1c3;s;s;sh1", 0, 1));
            layingsAre(c, laid("gr1c3;s;s;sh1", 0, NONE, 1), 21);
        });
        b.term(3, "in which those that lie stay,", c -> {
            QuiltLaw x = Checks.quilt("gr1c2;lh0;s;s;s");
            layingsAre(c, x, 1, 2, 10, 12, 20, 21);
            x.lay(0, 1);
            layingsAre(c, x, 10, 12);
            x.take(0);
            x.turn(0, 1);
            x.turn(1, 1);
            x.lay(0, 2);
            layingsAre(c, x, 20, 21);
            x.turn(0, 2);
            x.lay(1, 0);
            layingsAre(c, x, 20);
            x.change(2, 3);
            x.take(0);
            layingsAre(c, x, 10, 20);
        });
        b.term(3, "TURNED as they are:", c -> {
            QuiltLaw x = Checks.quilt("gr1c2;lh0e1;se0100;se0010");
            layingsAre(c, x, 10);
            x.turn(1, 1);
            // 0001: its left is 1 now, its right 0.
            layingsAre(c, x, 1, 10);
            x.lay(0, 0);
            layingsAre(c, x, 1);
            x.turn(0, 1);
            // 0010: its right is 0 now.
            layingsAre(c, x);
            x.undo();
            layingsAre(c, x, 1);
            x.image();
            x.take(0);
            layingsAre(c, x, 1, 10);
            x.back();
            layingsAre(c, x, 1);
        });
        b.term(3, "how many, the i-th (rising).", c -> {
            QuiltLaw x = Checks.quilt("gr1c3;lh0;s;s;s;s;s");
            c.due("how many", x.layings(NONE), 60);
            for (int i = 1; i < 60; i++) {
                c.yes("rising", x.layings(i - 1) < x.layings(i));
            }
        });
    }

    private static void bestIs(Checks c, QuiltLaw x, int laying, int much) {
        c.due("the LAYING", x.best(0), laying);
        c.due("how much", x.best(1), much);
    }

    private void best() {
        b.term(3, "BEST: that with the greatest LIKINGS together (of several the least); how much.", c -> {
            bestIs(c, Checks.quilt("gr1c2;lh0;sl1;sl3;sl2"), 12, 5);
            bestIs(c, Checks.quilt("gr1c2;lh0;sl0;sl0;sl0"), 1, 0);
            bestIs(c, Checks.quilt("gr1c2;lh0s1;sl3d0;sl3d1;sl0"), 10, 6);
            bestIs(c, laid("gr1c2;lh0;sl1;sl3;sl2", NONE, 0), 10, 4);
            bestIs(c, Checks.quilt("gr2c3;lh0;sl0;sl1;sl2;sl3;sl4;sl5;sl6;sl7"), 234567, 27);
            bestIs(c, liking(Checks.quilt("gr1c2;lh0;sl1;sl3;sl2"), "y:0-l"), 2, -3);
            bestIs(c, liking(Checks.quilt("gr1c2;lh0;sl1;sl3;sl2"), "y:0-5"), 1, -10);
            bestIs(c, liking(Checks.quilt("gr1c2;lh0;sl1;sl3;sl2"), "y:c=0?l;y:0-l"), 10, 2);
            String text = "gr2c3;lh0;sl0;sl1;sl2;sl3;sl4;sl5;sl6;sl7";
            bestIs(c, liking(Checks.quilt(text), "y:r=1&c=2?l*9;y:0-l"), 12347, 53);
            bestIs(c, liking(Checks.quilt("gr1c1;s"), "y:0-9999*9999"), 0, -1000000);
            bestIs(c, liking(Checks.quilt("gr1c2;lh0;s;s"), "y:9999*9999"), 1, 2000000);
            QuiltLaw again = Checks.quilt("gr1c2;lh0;sl1;sl3;sl2");
            bestIs(c, again, 12, 5);
            bestIs(c, liking(again, "y:0-l"), 2, -3);
            again.liking(NONE);
            bestIs(c, again, 12, 5);
            QuiltLaw smaller = Checks.quilt("gr2c3;lh0;sl9;sl9;sl9;sl9;sl9;sl9;sl9;sl9");
            bestIs(c, smaller, 12345, 54);
            for (int cells = 3; cells > 0; cells--) {
                Checks.take(smaller, 0, "gr1c" + cells + ";lh0;sl1;sl3;sl2");
                bestIs(c, smaller, new int[] {1, 12, 12}[cells - 1], new int[] {3, 5, 6}[cells - 1]);
            }
        });
    }

    private void bars() {
        b.term(3, "BARS: LAWS (bits) without each of which alone there is such a LAYING.", c -> {
            c.due("HOUSES", Checks.quilt("gr1c2;s;s").bars(), 1);
            c.due("SHADES 1", laid("gr1c2;lh0s1;sd1;sd2", 0).bars(), 2);
            c.due("SHADES 2", laid("gr2c1;lh0s2;sd1;sd2", 0).bars(), 2);
            c.due("WEIGHTS", Checks.quilt("gr2c1;lh0w0;sw1;sw2").bars(), 4);
            c.due("WEIGHTS far apart", laid("gr2c2;lh0w8;sw0;sw0;sw9;sw9", 0, 1).bars(), 4);
            c.due("REDS", Checks.quilt("gr1c2;lh0r1;sk1;sk2").bars(), 8);
            c.due("EDGES", Checks.quilt("gr1c2;lh0e1;se0100;se0200").bars(), 16);
            c.due("two, neither alone", Checks.quilt("gr1c2;lr1;sk1;sk2").bars(), 0);
            c.due("too few SQUARES", Checks.quilt("gr1c2;s").bars(), 0);
            c.due("no LAW at all", Checks.quilt("gr1c2;lh0;s").bars(), 0);
            QuiltLaw x = laid("gr1c2;ls1r1;sh1k1d3;sh1d1;sh2k2d2;sh3d4", 0);
            c.due("each of three", x.bars(), 1 | 2 | 8);
            c.due("the LAW stays", x.law(0) * 100 + x.law(1) * 10 + x.law(3), 111);
            c.due("and there is none still", x.layings(NONE), 0);
        });
    }

    private void mates() {
        b.term(3, "MATES of a SQUARE: others (bits) that could lie to its right in a quilt of these two alone, no LAW broken (WEIGHTS not asked).", c -> {
            c.due("alone", Checks.quilt("gr1c1;s").mates(0), 0);
            c.due("not itself", Checks.quilt("lh0;s;s;s").mates(1), 1 | 4);
            c.due("all but the eighth", Checks.quilt("lh0;" + EIGHT).mates(7), 127);
            c.due("HOUSES", Checks.quilt("s;s;sh1").mates(0), 4);
            c.due("SHADES 1", Checks.quilt("lh0s1;sd3;sd4;sd3;sd2").mates(0), 4 | 8);
            c.due("SHADES 2", Checks.quilt("lh0s2;sd3;sd4;sd3;sd2").mates(0), 4 | 8);
            c.due("REDS", Checks.quilt("lh0r1;sk1;sk2;sk1;sk0").mates(0), 4 | 8);
            c.due("WEIGHTS not asked", Checks.quilt("gr3c1;lh0w0;sw0;sw9").mates(0), 2);
            QuiltLaw x = Checks.quilt("gr2c1;lh0e1;se1234;se0002;se2000;se0003");
            c.due("EDGES", x.mates(0), 2);
            x.turn(0, 3);
            c.due("its TURN", x.mates(0), 8);
            x.turn(2, 3);
            // 2000 TURNED 3: 0002.
            x.turn(0, 0);
            c.due("the other's TURN", x.mates(0), 2 | 4);
            LayBoundaries.lay(x, 1, 2);
            c.due("of these two alone", x.mates(0), 2 | 4);
        });
    }

    private static void lateIs(Checks c, QuiltLaw x, int square, int cell, int many, int laying) {
        c.due("how many", x.late(square, cell, 0), many);
        c.due("the LAYING", x.late(square, cell, 1), laying);
    }

    private void late() {
        b.term(3, "LATE: a SQUARE in a CELL: of all LAWFUL LAYINGS of all CELLS (none has to stay) with it there", c -> {
            lateIs(c, Checks.quilt("gr1c2;s;s;sh1"), 2, 0, 0, 20);
            lateIs(c, Checks.quilt("gr1c2;s;s;sh1"), 2, 1, 0, 2);
            lateIs(c, laid("gr1c2;s;s;sh1", 2, 0), 2, 1, 2, 2);
            lateIs(c, laid("gr1c2;s;s;sh1", 2, 0), 1, 1, 1, 21);
            lateIs(c, laid("gr1c2;s;s;sh1", 0, 1), 2, 0, 1, 21);
            lateIs(c, laid("gr1c2;s;s;sh1", 0, 1), 0, 0, 1, 2);
        });
        b.term(3, "that in which the fewest CELLS that are laid now have another SQUARE (of several the least): how many, the LAYING.", c -> {
            lateIs(c, Checks.quilt("gr1c3;lh0;s;s;s;s"), 1, 0, 0, 102);
            lateIs(c, laid("gr1c3;lh0;s;s;s;s", 0, 1, 2), 0, 0, 0, 12);
            lateIs(c, laid("gr1c3;lh0;s;s;s;s", 0, 1, 2), 3, 1, 1, 32);
            lateIs(c, laid("gr1c3;lh0;s;s;s;s", 0, 1, 2), 0, 2, 2, 210);
            lateIs(c, laid("gr1c3;lh0;s;s;s;s", 2, 3, 1), 1, 0, 2, 130);
            lateIs(c, laid("gr1c3;lh0;s;s;s;s", NONE, 3), 3, 2, 1, 13);
            lateIs(c, laid("gr1c3;lh0s1;sd1;sd2;sd3", 0, 1, 2), 1, 1, 2, 210);
            lateIs(c, laid("gr1c3;lh0s1;sd1;sd2;sd3", 0, 1, 2), 1, 0, NONE, NONE);
        });
    }

    private static void twistIs(Checks c, QuiltLaw x, int many, int turns) {
        c.due("how many", x.twist(0), many);
        c.due("TURNS", x.twist(1), turns);
    }

    private static QuiltLaw turned(QuiltLaw x, int... turns) {
        for (int square = 0; square < turns.length; square++) {
            x.turn(square, turns[square]);
        }
        return x;
    }

    private void twist() {
        b.term(3, "TWIST: the fewest SQUARES that lie TURNED otherwise, so that all marks that touch are alike: how many;", c -> {
            twistIs(c, Checks.quilt("s"), 0, 0);
            twistIs(c, laid("gr1c2;s;s", 0, 1), 0, 0);
            twistIs(c, laid("gr1c2;se0100;se0000", 0, 1), 1, 4);
            twistIs(c, laid("gr1c2;se0000;se0001", 0, 1), 1, 1);
            twistIs(c, laid("gr1c2;se1111;se2222", 0, 1), NONE, NONE);
            twistIs(c, laid("gr2c1;se1121;se3133", 0, 1), 2, 7);
            twistIs(c, laid("gr2c2;se1111;se2222", 0, NONE, NONE, 1), 0, 0);
            twistIs(c, laid("gr3c3;" + EIGHT, 0, 1, 2, 3, 4, 5, 6, 7), 0, 0);
            // Marks fit only as they are told: all eight have to go back.
            String unlike = "gr3c3;se0050;se1160;se1171;se5285;se6392;se7333;se8444;se9994";
            twistIs(c, laid(unlike, 0, 1, 2, 3, 4, 5, 6, 7), 0, 0);
            twistIs(c, turned(laid(unlike, 0, 1, 2, 3, 4, 5, 6, 7), 1, 2, 3, 1, 2, 3, 1), 7, 0);
            twistIs(c, turned(laid(unlike, 0, 1, 2, 3, 4, 5, 6, 7), 1, 2, 3, 1, 2, 3, 1, 2), 8, 0);
            QuiltLaw x = laid("gr1c2;se0100;se0000", 0, 1);
            twistIs(c, x, 1, 4);
            c.due("nothing is TURNED by that", Checks.square(x, 0, 6), 0);
            x.change(4, 1);
            twistIs(c, x, 1, 4);
        });
        b.term(3, "TURNS of all CELLS then (digits to the base 4, CELL 0 the highest, an empty one 0; of several the least).", c -> {
            twistIs(c, turned(laid("gr1c3;s;s;s", 0, NONE, 1), 1, 3), 0, 19);
            twistIs(c, turned(laid("gr1c3;s;s;s", 1, 0), 1, 3, 2), 0, 52);
            twistIs(c, turned(laid("gr3c3;" + EIGHT, 0, 1, 2, 3, 4, 5, 6, 7), 3, 3, 3, 3, 3, 3, 3, 3), 0, 262140);
            twistIs(c, turned(laid("gr3c3;" + EIGHT, NONE, 0, 1, 2, 3, 4, 5, 6, 7), 3, 3, 3, 3, 3, 3, 3, 3), 0, 65535);
            twistIs(c, turned(laid("gr1c1;se1234", 0), 2), 0, 2);
            twistIs(c, laid("gr1c2;se1111;se1012", 0, 1), 1, 1);
            twistIs(c, laid("gr1c2;se1211;se2221", 0, 1), 1, 1);
        });
    }

    private static void patchIs(Checks c, QuiltLaw x, int cell, int bits, int one) {
        c.due("which", x.patch(cell, 0), bits);
        c.due("the one", x.patch(cell, 1), one);
    }

    private void patch() {
        b.term(3, "PATCH of an empty CELL: SQUARES that do not lie (bits) with which there no more CELLS BREAK a LAW than now;", c -> {
            patchIs(c, Checks.quilt("s;s;s"), 3, 7, 0);
            patchIs(c, laid("s;s", 0, 1), 2, 0, NONE);
            patchIs(c, laid("s;s;sh1", 0), 1, 4, 2);
            patchIs(c, laid("s;s;s", 0), 1, 0, NONE);
            patchIs(c, laid("s;s;s", NONE, 0), 0, 0, NONE);
            QuiltLaw x = laid("sh1;sh1;sh1;sh2", NONE, 0, NONE, 1);
            c.due("CELL 3 breaks a LAW now", x.broken(3), 1);
            patchIs(c, x, 2, 4 | 8, 2);
            patchIs(c, x, 0, 8, 3);
            c.due("nothing is laid by that", x.count(5), 2);
            patchIs(c, laid("gr2c1;lh0w0;sw1;sw2;sw1", 0), 1, 4, 2);
        });
        b.term(3, "the one of these with the greatest LIKING there (of several the lowest).", c -> {
            patchIs(c, laid("sl1;sl9;sl3;sl5;sl5;sh1", 1), 3, 1 | 4 | 8 | 16 | 32, 3);
            patchIs(c, laid("sl9;sl3;sl9"), 0, 7, 0);
            patchIs(c, laid("sl0;sl0"), 0, 3, 0);
            patchIs(c, liking(Checks.quilt("sl3;sl1;sl2"), "y:0-l"), 0, 7, 1);
            patchIs(c, liking(Checks.quilt("sl1;sl3;sl2"), "y:0-l"), 0, 7, 0);
            patchIs(c, liking(Checks.quilt("sl1;sl3;sl2"), "y:0-9"), 0, 7, 0);
            patchIs(c, liking(Checks.quilt("sl1;sl3;sl2"), "y:r=1?0-l;y:l"), 1, 7, 1);
            patchIs(c, liking(Checks.quilt("sl1;sl3;sl2"), "y:r=1?0-l;y:l"), 2, 7, 0);
            patchIs(c, liking(Checks.quilt("sl1;sl3;sl2"), "y:0-9999*9999"), 0, 7, 0);
        });
    }

    private void corners() {
        b.term(3, "CORNERS: CELL 0, the last of the first ROW, the first of the last ROW, the last one (each once; numbered so).", c -> {
            int[][] corners = {{1, 2, 2}, {2, 4, 4}, {2, 4, 4}};
            for (int rows = 1; rows <= 3; rows++) {
                for (int columns = 1; columns <= 3; columns++) {
                    int many = corners[rows - 1][columns - 1];
                    QuiltLaw x = Checks.quilt("gr" + rows + "c" + columns + ";s;s");
                    c.due("CORNERS", x.count(8), many);
                    for (int corner = 0; corner < 5; corner++) {
                        c.due("a BID for " + corner, x.bid(1, corner, 1) ? 1 : 0, corner < many ? 1 : 0);
                    }
                }
            }
        });
        b.term(3, "BIDS (0 .. 99; 0 at first) of SQUARES for them.", c -> {
            QuiltLaw x = Checks.quilt("gr1c1;s");
            c.due("at first", x.won(0), 0);
            c.yes("the greatest", x.bid(0, 0, 99));
            c.due("the greatest", x.won(0), 99);
            c.no("above", x.bid(0, 0, 100));
            c.no("below", x.bid(0, 0, -1));
            c.due("refused", x.won(0), 99);
            c.yes("the least", x.bid(0, 0, 0));
            c.due("the least", x.won(0), 0);
            c.yes("of one that lies, too", x.lay(0, 0) > 0 && x.bid(0, 0, 5));
            c.due("of one that lies, too", x.won(0), 5);
        });
    }

    private static QuiltLaw bids(String text, int... bids) {
        QuiltLaw x = Checks.quilt(text);
        for (int n = 0; n < bids.length; n++) {
            x.bid(n / x.count(8), n % x.count(8), bids[n]);
        }
        return x;
    }

    private static void wonIs(Checks c, QuiltLaw x, int much, int who) {
        c.due("how much", x.won(0), much);
        c.due("who", x.won(1), who);
    }

    private void won() {
        b.term(3, "WON: each CORNER has one SQUARE or none, each SQUARE one CORNER at most, so that BIDS together are greatest", c -> {
            wonIs(c, bids("s", 5, 7, 3, 1), 7, 9099);
            wonIs(c, bids("s;s", 9, 8, 0, 0, 9, 1, 0, 0), 17, 1099);
            wonIs(c, bids("gr1c1;s;s;s", 3, 8, 4), 8, 1);
            wonIs(c, bids("gr1c2;s;s;s", 99, 99, 99, 98, 1, 99), 198, 2);
            wonIs(c, bids("s;s;s;s", 99, 99, 99, 99, 99, 99, 99, 99, 99, 99, 99, 99, 99, 99, 99, 99), 396, 123);
        });
        b.term(3, "(of several the least as digits: the SQUARE of each CORNER, 9 for none, CORNER 0 the highest): how much, who.", c -> {
            wonIs(c, Checks.quilt("s"), 0, 999);
            wonIs(c, Checks.quilt("s;s;s"), 0, 129);
            wonIs(c, Checks.quilt("s;s;s;s;s"), 0, 123);
            wonIs(c, Checks.quilt("gr1c3;s;s;s"), 0, 1);
            wonIs(c, Checks.quilt("gr3c1;s"), 0, 9);
            wonIs(c, bids("s", 0, 7, 7, 0), 7, 9099);
            wonIs(c, bids("s", 0, 0, 0, 7), 7, 9990);
            wonIs(c, bids("s;s", 4, 4, 0, 0, 4, 4, 0, 0), 8, 199);
            wonIs(c, bids(EIGHT + ";gr1c1", 0, 0, 0, 0, 0, 0, 0, 6), 6, 7);
        });
        b.term(3, "PRICE of a CORNER: the greatest BIDS of all without its SQUARE, less what the others have of those that WON.", c -> {
            QuiltLaw x = bids("gr1c2;s;s;s", 10, 0, 8, 9, 0, 3);
            wonIs(c, x, 19, 1);
            c.due("8 + 3, less 9", x.price(0), 2);
            c.due("10 + 3, less 10", x.price(1), 3);
            QuiltLaw alone = bids("gr1c1;s", 42);
            c.due("alone", alone.price(0), 0);
            QuiltLaw tie = bids("gr1c1;s;s", 42, 42);
            c.due("as much as the other one", tie.price(0), 42);
            QuiltLaw none = Checks.quilt("gr1c1;s;s");
            c.due("nobody bids", none.price(0), 0);
            QuiltLaw all = bids("s;s;s;s;s", 9, 0, 0, 0, 0, 9, 0, 0, 0, 0, 9, 0, 0, 0, 0, 9, 1, 2, 3, 4);
            for (int corner = 0; corner < 4; corner++) {
                c.due("the fifth one's BID", all.price(corner), corner + 1);
            }
            c.due("asking changes nothing", all.won(0), 36);
        });
    }

    private void draws() {
        b.term(3, "x, at first the seed, becomes x times 6364136223846793005 and 1442695040888963407 (64 bits, going round);", c -> {
            int[][] lots = {{7, 1, 2, 3, 4, 6}, {6, 1, 0, 2, 5, 7}, {4, 1, 0, 7, 6, 5}, {0, 4, 2, 5, 1, 7},
                {0, 3, 5, 2, 1, 6}, {7, 2, 4, 0, 3, 5}, {0, 5, 6, 1, 7, 4}, {3, 2, 4, 0, 7, 6}};
            for (int i = 0; i < SEEDS.length; i++) {
                QuiltLaw x = Checks.quilt("gr2c3;" + EIGHT);
                c.due("a LOT", x.lot(SEEDS[i]), 1);
                LayBoundaries.liesAre(c, x, lots[i]);
            }
        });
        b.term(3, "a draw of k: (x shifted right by 33, without sign) modulo k.", c -> {
            // The seeds 2, -1, 5 and the least one lead to an x with its highest bit set.
            int[] of8 = {7, 6, 4, 0, 0, 7, 0, 3};
            int[] of3 = {2, 2, 1, 1, 0, 0, 1, 2};
            int[] of20160 = {19007, 1814, 4780, 16168, 16104, 19071, 13552, 5003};
            QuiltLaw eight = Checks.quilt("gr1c1;" + EIGHT);
            QuiltLaw three = Checks.quilt("gr1c1;s;s;s");
            QuiltLaw one = Checks.quilt("gr1c1;s");
            QuiltLaw many = Checks.quilt("gr2c3;lh0;" + EIGHT);
            for (int i = 0; i < SEEDS.length; i++) {
                c.due("of 8", eight.one(SEEDS[i]), of8[i]);
                c.due("of 3", three.one(SEEDS[i]), of3[i]);
                c.due("of 1", one.one(SEEDS[i]), 0);
                c.due("of 20160", many.one(SEEDS[i]), many.layings(of20160[i]));
            }
        });
    }

    private void lot() {
        b.term(3, "A LOT by a seed: CELLS that are empty, by numbers, each have a draw of how many SQUARES do not lie:", c -> {
            QuiltLaw x = laid("gr2c3;" + EIGHT, NONE, 3, NONE, NONE, 0, NONE);
            // Of 1 2 4 5 6 7 by draws of six, five, four, three.
            x.lot(0);
            LayBoundaries.liesAre(c, x, 7, 3, 6, 2, 0, 4);
        });
        b.term(3, "that one of these, by numbers; LAWS not asked; till there is none.", c -> {
            QuiltLaw x = Checks.quilt("gr3c3;ls2w0r1e1;s;sk1;sk2e1234");
            c.due("three in nine", x.lot(0), 1);
            c.due("till there is none", x.count(5), 3);
            for (int cell = 3; cell < 9; cell++) {
                c.due("empty still", x.cell(cell), NONE);
            }
            QuiltLaw same = laid("gr1c3;s;s;s", 0);
            same.lot(1);
            c.due("LAWS not asked", same.broken(1), 1);
            c.due("LAWS not asked", same.broken(2), 1);
        });
        b.term(3, "ONE by a seed: of LAYINGS that of a draw of how many there are.", c -> {
            QuiltLaw x = laid("gr1c3;lh0;s;s;s", NONE, 2);
            for (int i = 0; i < SEEDS.length; i++) {
                c.due("of two", x.one(SEEDS[i]), new int[] {120, 21, 21, 21, 21, 120, 21, 120}[i]);
            }
            c.due("nothing is laid", x.count(5), 1);
        });
    }

    private void image() {
        b.term(3, "An IMAGE keeps what lies, TURNS;", c -> {
            QuiltLaw x = turned(laid("s;s;s", 2, NONE, 0), 3, 1, 2);
            x.image();
            x.undo();
            x.undo();
            x.take(0);
            x.lay(1, 2);
            x.back();
            LayBoundaries.liesAre(c, x, 2, NONE, 0, NONE);
            for (int square = 0; square < 3; square++) {
                c.due("TURNED", Checks.square(x, square, 6), new int[] {3, 1, 2}[square]);
            }
            QuiltLaw nine = turned(laid("gr3c3;" + EIGHT, NONE, 7, 6, 5, 4, 3, 2, 1, 0), 3, 3, 3, 3, 3, 3, 3, 3);
            nine.image();
            for (int cell = 0; cell < 9; cell++) {
                nine.take(cell);
            }
            turned(nine, 1, 1, 1, 1, 1, 1, 1, 1);
            c.due("eight of nine", nine.back(), 8);
            LayBoundaries.liesAre(c, nine, NONE, 7, 6, 5, 4, 3, 2, 1, 0);
            c.due("TURNED", Checks.square(nine, 7, 6), 3);
        });
        b.term(3, "BACK: they are so again (no ACT can be UNDONE then).", c -> {
            QuiltLaw x = laid("s;s;s", 2);
            x.image();
            c.due("with nothing changed", x.back(), 1);
            c.due("no ACT", x.count(7), 0);
            c.due("no ACT", x.undo(), NONE);
            c.due("an ACT then", x.lay(1, 1), 1);
            c.due("UNDONE", x.undo(), 0);
            c.due("BACK is none", x.undo(), NONE);
            LayBoundaries.liesAre(c, x, 2, NONE, NONE, NONE);
        });
    }

    private static QuiltLaw swapped(QuiltLaw x, int... squares) {
        x.image();
        for (int cell = 0; cell < squares.length; cell++) {
            x.take(cell);
        }
        LayBoundaries.lay(x, squares);
        return x;
    }

    private void swaps() {
        b.term(3, "SWAPS: the fewest exchanges of two SQUARES that lie by which the quilt becomes as in the IMAGE (TURNS not asked).", c -> {
            c.due("nothing lies", swapped(Checks.quilt("s")).swaps(), 0);
            c.due("one alone", swapped(laid("s", 0), 0).swaps(), 0);
            c.due("as it was", swapped(laid("s;s;s;s", 0, 1, 2, 3), 0, 1, 2, 3).swaps(), 0);
            c.due("a ring of two", swapped(laid("s;s;s;s", 0, 1, 2, 3), 1, 0, 2, 3).swaps(), 1);
            c.due("two rings of two", swapped(laid("s;s;s;s", 0, 1, 2, 3), 1, 0, 3, 2).swaps(), 2);
            c.due("two rings of two, crosswise", swapped(laid("s;s;s;s", 0, 1, 2, 3), 2, 3, 0, 1).swaps(), 2);
            c.due("a ring of three", swapped(laid("s;s;s;s", 0, 1, 2, 3), 1, 2, 0, 3).swaps(), 2);
            c.due("a ring of four", swapped(laid("s;s;s;s", 0, 1, 2, 3), 1, 2, 3, 0).swaps(), 3);
            c.due("a ring of eight", swapped(laid("gr3c3;" + EIGHT, 0, 1, 2, 3, NONE, 4, 5, 6, 7), 1, 2, 3, 4, NONE, 5, 6, 7, 0).swaps(), 7);
            c.due("four rings of two", swapped(laid("gr3c3;" + EIGHT, 0, 1, 2, 3, NONE, 4, 5, 6, 7), 1, 0, 3, 2, NONE, 5, 4, 7, 6).swaps(), 4);
            QuiltLaw x = swapped(laid("s;s;s;s", 0, 1), 1, 0);
            turned(x, 1, 2);
            c.due("TURNS not asked", x.swaps(), 1);
            c.due("nothing is exchanged", x.cell(0), 1);
        });
    }

    private static void noneToAsk(Checks c, String what, Twins.Call call) {
        Twins.refused(c, what, NONE, call);
    }

    private interface OfWhat {
        int of(QuiltLaw x, int what);
    }

    /** What is no such what, asked of one that would answer otherwise, and of one without a QUILT. */
    private static void whats(Checks c, java.util.function.Supplier<QuiltLaw> made, int none, OfWhat call) {
        c.yes("what 0 would be answered", call.of(made.get(), 0) != none);
        c.yes("what 1 would be answered", call.of(made.get(), 1) != none);
        Twins.refused(c, "what -1", made, none, x -> call.of(x, -1));
        Twins.refused(c, "what 2", made, none, x -> call.of(x, 2));
        for (int v : Twins.WILD) {
            Twins.refused(c, "what " + v, made, none, x -> call.of(x, v));
        }
    }

    private static void withoutQuilt(Checks c, int none, OfWhat call) {
        for (int what = -1; what < 3; what++) {
            int which = what;
            Twins.refusedWithoutQuilt(c, "what " + what, none, x -> call.of(x, which));
        }
    }

    private void matesAndLayingsAsked() {
        b.promise(19, "MATES, as bits.", c -> {
            c.due("none", Checks.quilt("s;s").mates(0), 0);
            c.due("the first", Checks.quilt("s;s;sh1").mates(2), 3);
            c.due("the last", Checks.quilt("s;s;s;s;s;s;s;sh1").mates(0), 128);
        });
        b.promise(19, "NONE: no such SQUARE.", c -> {
            noneToAsk(c, "mates(-1)", x -> x.mates(-1));
            noneToAsk(c, "mates(5)", x -> x.mates(5));
            for (int v : Twins.WILD) {
                noneToAsk(c, "mates(" + v + ")", x -> x.mates(v));
            }
            Twins.refusedWithoutQuilt(c, "mates(0)", NONE, x -> x.mates(0));
        });
        b.promise(20, "LAYINGS: how many (i NONE),", c -> {
            c.due("none", Checks.quilt("s").layings(NONE), 0);
            c.due("one", Checks.quilt("gr1c1;s").layings(NONE), 1);
            c.due("six", Checks.quilt("gr1c2;lh0;s;s;s").layings(NONE), 6);
            QuiltLaw x = Twins.rich();
            c.due("as it lies", x.layings(NONE), 1);
            Twins.same(c, "asking changes something", x, Twins.rich());
        });
        b.promise(20, "the i-th.", c -> {
            QuiltLaw x = Checks.quilt("gr1c2;lh0;s;s;s");
            c.due("the first", x.layings(0), 1);
            c.due("the last", x.layings(5), 21);
            c.due("SQUARE 3 in CELL 0, 4 in 1, 1 in 2, 2 in 3", Twins.rich().layings(0), 3412);
        });
        b.promise(20, "NONE: no such one,", c -> {
            noneToAsk(c, "layings(1) of one", x -> x.layings(1));
            noneToAsk(c, "layings(-2)", x -> x.layings(-2));
            for (int v : Twins.WILD) {
                noneToAsk(c, "layings(" + v + ")", x -> x.layings(v));
            }
            c.due("layings(0) of none", Checks.quilt("s").layings(0), NONE);
            c.due("layings(20160) of 20160", Checks.quilt("gr2c3;lh0;" + EIGHT).layings(20160), NONE);
        });
        b.promise(20, "no QUILT.", c -> withoutQuilt(c, NONE, QuiltLaw::layings));
    }

    private void bestAndBarsAsked() {
        b.promise(21, "BEST: the LAYING (0), how much (1).", c -> {
            QuiltLaw x = Twins.rich();
            // y:r=1?d;y:w-9: 1 - 9 of SQUARE 3, 9 - 9 of 4, 2 of 1, 6 of 2.
            bestIs(c, x, 3412, 0);
            Twins.same(c, "asking changes something", x, Twins.rich());
        });
        b.promise(21, "HIDDEN: none,", c -> {
            Twins.refused(c, "best(0)", () -> Checks.quilt("gr1c2;s;s"), HIDDEN, x -> x.best(0));
            Twins.refused(c, "best(1)", () -> Checks.quilt("gr1c2;s;s"), HIDDEN, x -> x.best(1));
            Twins.refused(c, "best(0)", () -> laid("gr1c3;s;s;sh1", 0, 1), HIDDEN, x -> x.best(0));
        });
        b.promise(21, "no QUILT,", c -> withoutQuilt(c, HIDDEN, QuiltLaw::best));
        b.promise(21, "no such what.", c -> whats(c, Twins::rich, HIDDEN, QuiltLaw::best));
        b.promise(22, "BARS, as bits.", c -> {
            c.due("none", Checks.quilt("s").bars(), 0);
            QuiltLaw x = Checks.quilt("gr1c2;s;s");
            c.due("HOUSES", x.bars(), 1);
            c.due("asked again", x.bars(), 1);
            Twins.same(c, "asking changes something", x, Checks.quilt("gr1c2;s;s"));
        });
        b.promise(22, "NONE: there is a LAYING,", c -> {
            noneToAsk(c, "bars()", QuiltLaw::bars);
            Twins.refused(c, "all lie", () -> laid("gr1c1;s", 0), NONE, QuiltLaw::bars);
        });
        b.promise(22, "no QUILT.", c -> Twins.refusedWithoutQuilt(c, "bars()", NONE, QuiltLaw::bars));
    }

    private void lateAndTwistAsked() {
        b.promise(23, "LATE: how many (0), the LAYING (1).", c -> {
            lateIs(c, laid("gr1c2;lh0;s;s", 0, 1), 1, 0, 2, 10);
            QuiltLaw x = Twins.rich();
            lateIs(c, x, 3, 0, 0, 3412);
            Twins.same(c, "asking changes something", x, Twins.rich());
        });
        b.promise(23, "NONE: none,", c -> {
            Twins.refused(c, "late(0, 0, 0)", () -> Checks.quilt("gr1c2;s;s"), NONE, x -> x.late(0, 0, 0));
            Twins.refused(c, "late(0, 0, 1)", () -> Checks.quilt("gr1c2;s;s"), NONE, x -> x.late(0, 0, 1));
            Twins.refused(c, "too few SQUARES", () -> Checks.quilt("s;s;s"), NONE, x -> x.late(0, 0, 0));
            Twins.refused(c, "none with it there", () -> Checks.quilt("gr1c2;lh0s1;sd1;sd2"), NONE, x -> x.late(0, 0, 0));
        });
        b.promise(23, "no such ones.", c -> {
            whats(c, Twins::rich, NONE, (x, what) -> x.late(3, 0, what));
            noneToAsk(c, "late(-1, 0, 0)", x -> x.late(-1, 0, 0));
            noneToAsk(c, "late(5, 0, 0)", x -> x.late(5, 0, 0));
            noneToAsk(c, "late(3, -1, 0)", x -> x.late(3, -1, 0));
            noneToAsk(c, "late(3, 4, 0)", x -> x.late(3, 4, 0));
            for (int v : Twins.WILD) {
                noneToAsk(c, "late(" + v + ", 0, 0)", x -> x.late(v, 0, 0));
                noneToAsk(c, "late(3, " + v + ", 0)", x -> x.late(3, v, 0));
            }
            withoutQuilt(c, NONE, (x, what) -> x.late(0, 0, what));
        });
        b.promise(24, "TWIST: how many (0), TURNS (1).", c -> {
            QuiltLaw x = laid("gr1c2;se0100;se0000", 0, 1);
            twistIs(c, x, 1, 4);
            Twins.same(c, "asking changes something", x, laid("gr1c2;se0100;se0000", 0, 1));
        });
        b.promise(24, "NONE: it can't be,", c -> {
            Twins.refused(c, "twist(0)", () -> laid("gr1c2;se1111;se2222", 0, 1), NONE, x -> x.twist(0));
            Twins.refused(c, "twist(1)", () -> laid("gr2c1;se1111;se2222", 0, 1), NONE, x -> x.twist(1));
            // However SQUARE 1 is TURNED: of its marks to the left and to the right one is 1, the other 2.
            QuiltLaw x = laid("gr1c3;se1111;se1122;se1111", 0, 1, 2);
            c.due("between two", x.twist(0), NONE);
            x.take(2);
            c.due("beside one", x.twist(0), 1);
        });
        b.promise(24, "no QUILT,", c -> withoutQuilt(c, NONE, QuiltLaw::twist));
        b.promise(24, "no such what.", c -> whats(c, () -> Checks.quilt("s"), NONE, QuiltLaw::twist));
    }

    private void patchAsked() {
        b.promise(25, "PATCH: which, as bits (0),", c -> {
            c.due("the first", Checks.quilt("s").patch(0, 0), 1);
            c.due("the last", laid("gr3c3;" + EIGHT, 0, 1, 2, 3, 4, 5, 6).patch(8, 0), 0);
            c.due("the last", laid("gr3c3;lh0;" + EIGHT, 0, 1, 2, 3, 4, 5, 6).patch(7, 0), 128);
            c.due("none", laid("s", 0).patch(1, 0), 0);
        });
        b.promise(25, "the one (1; NONE: none).", c -> {
            c.due("the first", Checks.quilt("s").patch(0, 1), 0);
            c.due("the last", laid("gr3c3;lh0;" + EIGHT, 0, 1, 2, 3, 4, 5, 6).patch(7, 1), 7);
            c.due("none", laid("s", 0).patch(1, 1), NONE);
            c.due("none that may", laid("s;s", 0).patch(1, 1), NONE);
            Twins.refused(c, "asking alone", () -> laid("s;s", 0), NONE, x -> x.patch(1, 1));
        });
        b.promise(25, "HIDDEN: the CELL is laid,", c -> {
            for (int what = 0; what < 2; what++) {
                int which = what;
                Twins.refused(c, "patch(1, " + what + ")", HIDDEN, x -> x.patch(1, which));
                Twins.refused(c, "patch(3, " + what + ")", HIDDEN, x -> x.patch(3, which));
            }
        });
        b.promise(25, "no such ones.", c -> {
            whats(c, Twins::rich, HIDDEN, (x, what) -> x.patch(0, what));
            Twins.refused(c, "patch(-1, 0)", HIDDEN, x -> x.patch(-1, 0));
            Twins.refused(c, "patch(4, 0)", HIDDEN, x -> x.patch(4, 0));
            for (int v : Twins.WILD) {
                Twins.refused(c, "patch(" + v + ", 1)", HIDDEN, x -> x.patch(v, 1));
            }
            withoutQuilt(c, HIDDEN, (x, what) -> x.patch(0, what));
        });
    }

    private static void noBid(Checks c, int square, int corner, int v) {
        Twins.refused(c, "bid(" + square + ", " + corner + ", " + v + ")", 0, x -> x.bid(square, corner, v) ? 1 : 0);
    }

    private void bidsAsked() {
        b.promise(26, "A BID.", c -> {
            QuiltLaw x = Checks.quilt(EIGHT);
            for (int square = 0; square < 8; square++) {
                for (int corner = 0; corner < 4; corner++) {
                    c.yes("a BID", x.bid(square, corner, square * 10 + corner));
                }
            }
            // 70 + 61 + 52 + 43, in whatever order.
            wonIs(c, x, 226, 4567);
            c.yes("less than the one ahead", x.bid(7, 3, 0));
            wonIs(c, x, 226, 4576);
            c.due("is no ACT", x.count(7), 0);
        });
        b.promise(26, "False: no such ones,", c -> {
            for (int k = 0; k < 5; k++) {
                noBid(c, k, -1, 9);
                noBid(c, k, 4, 9);
                noBid(c, -1, k, 9);
                noBid(c, 5, k, 9);
            }
            for (int v : Twins.WILD) {
                noBid(c, v, 0, 9);
                noBid(c, 1, v, 9);
            }
            c.no("two CORNERS", Checks.quilt("gr1c2;s;s").bid(0, 2, 1));
            c.no("one CORNER", Checks.quilt("gr1c1;s;s").bid(0, 1, 1));
            Twins.refusedWithoutQuilt(c, "bid(0, 0, 1)", 0, x -> x.bid(0, 0, 1) ? 1 : 0);
        });
        b.promise(26, "out of bounds.", c -> {
            noBid(c, 0, 0, -1);
            noBid(c, 0, 0, 100);
            noBid(c, 3, 3, -1);
            noBid(c, 3, 3, 100);
            for (int v : Twins.WILD) {
                noBid(c, 1, 1, v);
            }
        });
        b.promise(27, "WON: how much (0), who (1).", c -> {
            QuiltLaw x = Twins.rich();
            // BIDS of the four corners: 7 and 9 for 0, 5 for 1, 1 for 3.
            wonIs(c, x, 15, 2103);
            Twins.same(c, "asking changes something", x, Twins.rich());
        });
        b.promise(27, "NONE: no QUILT,", c -> withoutQuilt(c, NONE, QuiltLaw::won));
        b.promise(27, "no such what.", c -> whats(c, Twins::rich, NONE, QuiltLaw::won));
        b.promise(28, "PRICE.", c -> {
            QuiltLaw x = Twins.rich();
            c.due("9 WON it ahead of 7", x.price(0), 7);
            c.due("nobody else bids", x.price(1), 0);
            c.due("nobody bids, yet SQUARE 0 has it", x.price(2), 0);
            c.due("nobody else bids", x.price(3), 0);
            Twins.same(c, "asking changes something", x, Twins.rich());
        });
        b.promise(28, "NONE: nobody has it,", c -> {
            QuiltLaw x = bids("s", 5, 7, 3, 1);
            c.due("nobody", x.price(0), NONE);
            c.due("the one SQUARE", x.price(1), 0);
            c.due("nobody", x.price(2), NONE);
            c.due("nobody", x.price(3), NONE);
        });
        b.promise(28, "no such CORNER.", c -> {
            noneToAsk(c, "price(-1)", x -> x.price(-1));
            noneToAsk(c, "price(4)", x -> x.price(4));
            for (int v : Twins.WILD) {
                noneToAsk(c, "price(" + v + ")", x -> x.price(v));
            }
            c.due("two CORNERS", Checks.quilt("gr1c2;s;s;s").price(2), NONE);
            c.due("one CORNER", Checks.quilt("gr1c1;s;s;s").price(1), NONE);
            c.due("one CORNER", Checks.quilt("gr1c1;s;s;s").price(-1), NONE);
            Twins.refusedWithoutQuilt(c, "price(0)", NONE, x -> x.price(0));
        });
    }

    private void drawsAsked() {
        b.promise(29, "A LOT: how many ACTS can be UNDONE.", c -> {
            QuiltLaw x = laid("s;s;s;s;s", NONE, 1);
            c.due("one ACT", x.lot(3), 2);
            c.due("all CELLS are laid", x.count(5), 4);
            c.due("UNDONE in one", x.undo(), 1);
            LayBoundaries.liesAre(c, x, NONE, 1, NONE, NONE);
            QuiltLaw full = Checks.quilt("s;s");
            for (int n = 0; n < 40; n++) {
                full.turn(0, (n + 1) % 4);
            }
            c.due("the forty-first", full.lot(3), 40);
            c.due("UNDONE", full.undo(), 39);
            c.due("nothing lies", full.count(5), 0);
        });
        b.promise(29, "NONE: no QUILT,", c -> Twins.refusedWithoutQuilt(c, "lot(1)", NONE, x -> x.lot(1)));
        b.promise(29, "no CELL is empty,", c -> {
            Twins.refused(c, "lot(1)", () -> laid("gr1c2;s;s;s", 0, 1), NONE, x -> x.lot(1));
            Twins.refused(c, "lot(1)", () -> laid("gr1c2;s;s", 0, 1), NONE, x -> x.lot(1));
            c.due("one is", laid("gr1c2;s;s;s", 0).lot(1), 2);
        });
        b.promise(29, "all SQUARES lie.", c -> {
            Twins.refused(c, "lot(1)", () -> laid("s;s", 0, 1), NONE, x -> x.lot(1));
            c.due("one does not", laid("s;s;s", 0, 1).lot(1), 3);
        });
        b.promise(30, "ONE of the LAYINGS.", c -> {
            QuiltLaw x = Twins.rich();
            for (long seed : SEEDS) {
                c.due("of one", x.one(seed), 3412);
            }
            Twins.same(c, "asking changes something", x, Twins.rich());
        });
        b.promise(30, "NONE: none,", c -> {
            for (long seed : SEEDS) {
                Twins.refused(c, "one(" + seed + ")", () -> Checks.quilt("gr1c2;s;s"), NONE, x -> x.one(seed));
            }
        });
        b.promise(30, "no QUILT.", c -> Twins.refusedWithoutQuilt(c, "one(1)", NONE, x -> x.one(1)));
    }

    private void imagesAsked() {
        b.promise(37, "An IMAGE (instead of the one ahead):", c -> {
            QuiltLaw x = laid("s;s", 0);
            x.image();
            x.lay(1, 1);
            x.image();
            x.take(0);
            x.take(1);
            c.due("the latest", x.back(), 2);
            c.due("the latest, again", x.back(), 2);
            c.due("is no ACT", x.count(7), 0);
        });
        b.promise(37, "how many SQUARES lie.", c -> {
            c.due("none", Checks.quilt("s").image(), 0);
            c.due("eight", laid("gr3c3;" + EIGHT, 0, 1, 2, 3, 4, 5, 6, 7).image(), 8);
            QuiltLaw x = Twins.rich();
            c.due("two", x.image(), 2);
            c.due("ACTS stay", x.count(7), 9);
        });
        b.promise(37, "NONE: no QUILT.", c -> Twins.refusedWithoutQuilt(c, "image()", NONE, QuiltLaw::image));
        b.promise(38, "BACK: how many SQUARES lie.", c -> {
            QuiltLaw x = Checks.quilt("s;s");
            x.image();
            x.lay(0, 0);
            c.due("none", x.back(), 0);
            LayBoundaries.liesAre(c, x, NONE, NONE, NONE, NONE);
            QuiltLaw rich = Twins.rich();
            c.due("two", rich.back(), 2);
            LayBoundaries.liesAre(c, rich, 0, NONE, NONE, 2);
            c.due("the LAW stays", rich.law(2), 5);
            c.due("BIDS stay", rich.won(0), 15);
            c.due("which LIKING holds stays", rich.count(6), 1);
        });
        b.promise(38, "NONE: no IMAGE of this QUILT.", c -> {
            Twins.refused(c, "none at all", () -> laid("s;s", 0), NONE, QuiltLaw::back);
            Twins.refused(c, "one of another QUILT", LayingBoundaries::ofAnotherQuilt, NONE, QuiltLaw::back);
            Twins.refusedWithoutQuilt(c, "no QUILT", NONE, QuiltLaw::back);
        });
        b.promise(39, "SWAPS.", c -> {
            QuiltLaw x = swapped(laid("gr1c3;s;s;s", 0, 1, 2), 2, 0, 1);
            c.due("two", x.swaps(), 2);
            x.back();
            c.due("brought BACK", x.swaps(), 0);
        });
        b.promise(39, "NONE: other SQUARES lie,", c -> {
            Twins.refused(c, "one other", () -> swapped(laid("gr1c3;s;s;s", 0, 1), 0, 2), NONE, QuiltLaw::swaps);
            Twins.refused(c, "all others", () -> swapped(laid("gr1c3;s;s;s;s", 0, 1), 3, 2), NONE, QuiltLaw::swaps);
        });
        b.promise(39, "or other CELLS are laid, than in the IMAGE;", c -> {
            Twins.refused(c, "one less", () -> swapped(laid("gr1c3;s;s;s", 0, 1), 0, NONE), NONE, QuiltLaw::swaps);
            Twins.refused(c, "one more", () -> swapped(laid("gr1c3;s;s;s", 0, 1), 0, 1, 2), NONE, QuiltLaw::swaps);
            Twins.refused(c, "another one", () -> swapped(laid("gr1c3;s;s;s", 0, 1), 0, NONE, 1), NONE, QuiltLaw::swaps);
            Twins.refused(c, "none", () -> swapped(laid("gr1c3;s;s;s", 0), NONE, NONE, NONE), NONE, QuiltLaw::swaps);
        });
        b.promise(39, "no IMAGE.", c -> {
            Twins.refused(c, "none at all", () -> laid("s;s", 0), NONE, QuiltLaw::swaps);
            Twins.refused(c, "nothing lies", () -> Checks.quilt("s;s"), NONE, QuiltLaw::swaps);
            Twins.refused(c, "one of another QUILT", LayingBoundaries::ofAnotherQuilt, NONE, QuiltLaw::swaps);
            Twins.refusedWithoutQuilt(c, "no QUILT", NONE, QuiltLaw::swaps);
        });
    }

    private static QuiltLaw ofAnotherQuilt() {
        QuiltLaw x = laid("s;s", 0);
        x.image();
        Checks.take(x, 0, "s;s");
        x.lay(0, 0);
        return x;
    }
}
