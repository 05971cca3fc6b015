import java.util.function.Supplier;

/** What is counted of a quilt and of its LAYINGS: Term 4, and promises 31 to 36 and 40. */
final class OtherBoundaries {
    private static final int NONE = -1;
    private static final int HIDDEN = -1000000;
    private static final String EIGHT = "s;s;s;s;s;s;s;s";

    private final Boundaries b;

    OtherBoundaries(Boundaries b) {
        this.b = b;
    }

    void all() {
        useAndEase();
        mend();
        seams();
        dark();
        hoard();
        refused();
        calls();
        useAsked();
        easeAndMendAsked();
        seamsAndDarkAsked();
        hoardAsked();
        count();
    }

    private static QuiltLaw laid(String text, int... squares) {
        return LayBoundaries.laid(text, squares);
    }

    private void useAndEase() {
        b.term(4, "USE of a SQUARE: in how many of the LAYINGS it is; in how many it is in a CELL.", c -> {
            QuiltLaw x = Checks.quilt("gr1c3;lh0;s;s;s;s");
            c.due("of 24", x.use(3, NONE), 18);
            for (int cell = 0; cell < 3; cell++) {
                c.due("in CELL " + cell, x.use(3, cell), 6);
            }
            x.lay(2, 3);
            c.due("of 6", x.use(3, NONE), 6);
            c.due("of 6", x.use(0, NONE), 4);
            c.due("where it lies", x.use(3, 2), 6);
            c.due("elsewhere", x.use(3, 0), 0);
            c.due("another one there", x.use(0, 2), 0);
            QuiltLaw last = Checks.quilt("gr1c2;lh0s1;sd1;sd2;sd3");
            c.due("21, 20, 10", last.use(2, NONE), 2);
            c.due("21, 20", last.use(2, 0), 2);
            c.due("none", last.use(2, 1), 0);
        });
        b.term(4, "EASE: the least WEIGHTS (0 .. 9) with which there is a LAYING.", c -> {
            for (int weight = 0; weight <= 9; weight++) {
                for (int law = 0; law <= 9; law += 3) {
                    QuiltLaw x = Checks.quilt("gr2c1;lh0w" + law + ";sw0;sw" + weight);
                    c.due("apart by " + weight, x.ease(), weight);
                    c.due("the LAW stays", x.law(2), law);
                }
            }
            c.due("apart by 10: with 9, not asked", laid("gr2c2;lh0w0;sw0;sw0;sw5;sw5", 0, 1).ease(), 9);
            c.due("apart by 27", laid("gr2c3;lh0w0;sw0;sw0;sw0;sw9;sw9;sw9", 0, 1, 2).ease(), 9);
            c.due("ROWS 0, 3, 5", laid("gr3c1;lh0;sw0;sw3;sw5", 0, 1, 2).ease(), 5);
            c.due("ROWS 3, 0, 5", laid("gr3c1;lh0;sw0;sw3;sw5", 1, 0, 2).ease(), 5);
            c.due("one ROW", Checks.quilt("gr1c3;lh0w0;sw0;sw9;sw5").ease(), 0);
            c.due("those that lie stay", laid("gr2c1;lh0;sw0;sw1;sw5;sw6", 0, 2).ease(), 5);
            c.due("one stays", laid("gr2c1;lh0;sw0;sw2;sw5;sw6", 0).ease(), 2);
            c.due("of all", Checks.quilt("gr2c1;lh0;sw0;sw2;sw5;sw6").ease(), 1);
        });
    }

    private static void mendIs(Checks c, QuiltLaw x, int many, int laying) {
        c.due("how many", x.mend(0), many);
        c.due("the LAYING", x.mend(1), laying);
    }

    private void mend() {
        b.term(4, "MEND: of all LAWFUL LAYINGS of all CELLS (none has to stay) that in which the fewest CELLS that are laid now have another SQUARE", c -> {
            mendIs(c, laid("gr1c3;lh0;s;s;s", 2, 1, 0), 0, 210);
            mendIs(c, laid("gr1c3;lh0;s;s;s", NONE, 2), 0, 21);
            mendIs(c, laid("gr1c3;s;s;sh1", 0, 1, 2), 2, 21);
            mendIs(c, laid("gr1c3;s;s;sh1", 0, 1), 1, 21);
            mendIs(c, laid("gr1c3;lh0s1;sd1;sd2;sd3", 0, 1, 2), 2, 210);
            mendIs(c, laid("gr1c3;lh0s1;sd1;sd2;sd3", 0, 2, 1), 3, 210);
        });
        b.term(4, "(of several the least): how many, the LAYING.", c -> {
            mendIs(c, Checks.quilt("gr1c3;lh0;s;s;s;s"), 0, 12);
            mendIs(c, Checks.quilt("gr1c2;s;s;sh1;sh1"), 0, 2);
            mendIs(c, laid("gr1c2;s;s;sh1;sh1", 0, 1), 1, 2);
            mendIs(c, laid("gr1c2;s;s;sh1;sh1", 3, 2), 1, 2);
            mendIs(c, laid("gr1c2;s;s;sh1;sh1", 3), 0, 30);
        });
    }

    private void seams() {
        b.term(4, "SEAMS: pairs of CELLS beside one another, both laid, whose marks that touch are alike: how many.", c -> {
            c.due("nothing lies", Checks.quilt("s;s").seams(), 0);
            c.due("one alone", laid("s", 0).seams(), 0);
            c.due("to the right", laid("gr1c2;se0700;se0007", 0, 1).seams(), 1);
            c.due("unlike", laid("gr1c2;se0700;se0006", 0, 1).seams(), 0);
            c.due("below", laid("gr2c1;se0070;se7000", 0, 1).seams(), 1);
            c.due("unlike", laid("gr2c1;se0070;se6000", 0, 1).seams(), 0);
            c.due("not corner to corner", laid("s;s", 0, NONE, NONE, 1).seams(), 0);
            c.due("not round the end of a ROW", laid("s;s", NONE, 0, 1, NONE).seams(), 0);
            c.due("not over an empty one", laid("gr1c3;s;s", 0, NONE, 1).seams(), 0);
            c.due("four", laid("s;s;s;s", 0, 1, 2, 3).seams(), 4);
            c.due("ten", laid("gr3c3;" + EIGHT, 0, 1, 2, 3, 4, 5, 6, 7).seams(), 10);
            c.due("eight round an empty one", laid("gr3c3;" + EIGHT, 0, 1, 2, 3, NONE, 4, 5, 6, 7).seams(), 8);
            QuiltLaw x = laid("gr1c2;se0700;se7000", 0, 1);
            c.due("not yet", x.seams(), 0);
            x.turn(1, 3);
            c.due("TURNED", x.seams(), 1);
        });
    }

    private static void darkIs(Checks c, QuiltLaw x, int much, int ways) {
        c.due("how much", x.dark(0), much);
        c.due("in how many ways", x.dark(1), ways);
    }

    private void dark() {
        b.term(4, "DARK: of all ways from CELL 0 to the last one, by CELLS to the right or below, all laid, the greatest SHADES together;", c -> {
            darkIs(c, laid("gr1c1;sd7", 0), 7, 1);
            darkIs(c, laid("gr1c1;sd0", 0), 0, 1);
            darkIs(c, laid("gr1c3;sd1;sd2;sd3", 0, 1, 2), 6, 1);
            darkIs(c, laid("gr3c1;sd1;sd2;sd3", 0, 1, 2), 6, 1);
            darkIs(c, laid("sd1;sd2;sd3;sd4", 0, 1, 2, 3), 8, 1);
            darkIs(c, laid("sd1;sd3;sd2;sd4", 0, 1, 2, 3), 8, 1);
            darkIs(c, laid("sd1;sd3;sd9;sd4", 0, 1, NONE, 3), 8, 1);
            darkIs(c, laid("sd1;sd3;sd9;sd4", 0, NONE, 1, 3), 8, 1);
            darkIs(c, laid("sd1;sd3;sd9;sd4", 0, NONE, NONE, 3), NONE, NONE);
            // 0 1 2 / - 9 - / 3 4 5: the 9 in the middle is reached from above and left downwards.
            darkIs(c, laid("gr3c3;sd0;sd1;sd2;sd9;sd3;sd4;sd5", 0, 1, 2, NONE, 3, NONE, 4, 5, 6), 19, 1);
            // A way never goes up or to the left.
            darkIs(c, laid("gr2c3;sd1;sd1;sd1;sd1;sd1", NONE, 0, 1, 2, 3, 4), NONE, NONE);
            darkIs(c, laid("gr3c3;sd1;sd1;sd1;sd1;sd1;sd1;sd1", 0, NONE, 1, 2, 3, 4, NONE, NONE, 5), 5, 1);
        });
        b.term(4, "in how many ways these are reached.", c -> {
            darkIs(c, laid("s;s;s;s", 0, 1, 2, 3), 15, 2);
            darkIs(c, laid("gr2c3;s;s;s;s;s;s", 0, 1, 2, 3, 4, 5), 20, 3);
            darkIs(c, laid("gr3c2;s;s;s;s;s;s", 0, 1, 2, 3, 4, 5), 20, 3);
            darkIs(c, laid("gr2c3;s;s;sd6;s;s;s", 0, 1, 2, 3, 4, 5), 21, 1);
            darkIs(c, laid("gr2c3;s;sd6;s;s;s;s", 0, 1, 2, 3, 4, 5), 21, 2);
            darkIs(c, laid("gr3c3;" + EIGHT, 0, 1, 2, 3, NONE, 4, 5, 6, 7), 25, 2);
            darkIs(c, laid("gr3c3;" + EIGHT, 0, 1, NONE, 2, 3, 4, 5, 6, 7), 25, 5);
            darkIs(c, laid("gr3c3;sd0;sd0;sd0;sd0;sd0;sd0;sd0;sd0", 0, 1, NONE, 2, 3, 4, 5, 6, 7), 0, 5);
        });
    }

    private void hoard() {
        b.term(4, "HOARD of a HOUSE: WEIGHTS together of its SQUARES that lie; that do not.", c -> {
            QuiltLaw x = laid("sh3w9;sh3w8;sh3w7;sh0w6;s", 0, 2, 3);
            hoardIs(c, x, 3, 16, 8);
            hoardIs(c, x, 0, 6, 1);
            hoardIs(c, x, 9, 0, 0);
            x.take(0);
            hoardIs(c, x, 3, 7, 17);
            hoardIs(c, Checks.quilt("sh9w9;sh9w9;sh9w9;sh9w9;sh9w9;sh9w9;sh9w9;sh9w9"), 9, 0, 72);
        });
    }

    private static void hoardIs(Checks c, QuiltLaw x, int house, int lie, int left) {
        c.due("that lie", x.hoard(house, 0), lie);
        c.due("that do not", x.hoard(house, 1), left);
    }

    private void refused() {
        b.term(4, "What is refused answers as told and changes nothing.", c -> {
            Twins.refused(c, "many refused ones", NONE, x -> {
                x.feed(-1, -1, -1, -1, -1);
                x.end(5);
                x.lay(1, 0);
                x.take(0);
                x.turn(0, 1);
                x.bid(0, 0, 100);
                x.change(2, 10);
                x.liking(2);
                x.text(3);
                x.layings(-7);
                return x.lay(0, 4);
            });
            // All arguments at once out of bounds.
            for (int v : Twins.WILD) {
                Twins.refused(c, "lay", NONE, x -> x.lay(v, v));
                Twins.refused(c, "turn", NONE, x -> x.turn(v, v));
                Twins.refused(c, "change", 0, x -> x.change(v, v) ? 1 : 0);
                Twins.refused(c, "bid", 0, x -> x.bid(v, v, v) ? 1 : 0);
                Twins.refused(c, "late", NONE, x -> x.late(v, v, v));
                Twins.refused(c, "patch", HIDDEN, x -> x.patch(v, v));
                Twins.refused(c, "use", NONE, x -> x.use(v, v));
                Twins.refused(c, "hoard", NONE, x -> x.hoard(v, v));
                Twins.refused(c, "square", Checks.THROWN, x -> Checks.square(x, v, v));
            }
        });
        b.term(4, "The constants: `NONE = -1`: None; refused. `HIDDEN = -1000000`: Not told.", c -> {
            c.due("NONE", QuiltLaw.NONE, -1);
            c.due("HIDDEN", QuiltLaw.HIDDEN, -1000000);
        });
    }

    private void calls() {
        b.use("An object is used for at most 512 calls after it has been made; what later calls answer is free.", c -> {
            QuiltLaw x = new QuiltLaw();
            x.feed('s' << 24 | ';' << 16 | 's' << 8, 0, 0, 0, 0);
            x.text(0);
            for (int call = 3; call < 512; call++) {
                c.due("call " + call, x.turn(call % 2, (call + 1) / 2 % 4), Math.min(call - 2, 40));
            }
            c.due("call 512", x.undo(), 39);
        });
    }

    private static void noneToAsk(Checks c, String what, Twins.Call call) {
        Twins.refused(c, what, NONE, call);
    }

    private interface OfWhat {
        int of(QuiltLaw x, int what);
    }

    private static void whats(Checks c, Supplier<QuiltLaw> made, OfWhat call) {
        c.yes("what 0 would be answered", call.of(made.get(), 0) != NONE);
        c.yes("what 1 would be answered", call.of(made.get(), 1) != NONE);
        Twins.refused(c, "what -1", made, NONE, x -> call.of(x, -1));
        Twins.refused(c, "what 2", made, NONE, x -> call.of(x, 2));
        for (int v : Twins.WILD) {
            Twins.refused(c, "what " + v, made, NONE, x -> call.of(x, v));
        }
    }

    private static void withoutQuilt(Checks c, OfWhat call) {
        for (int what = -1; what < 3; what++) {
            int which = what;
            Twins.refusedWithoutQuilt(c, "what " + what, NONE, x -> call.of(x, which));
        }
    }

    private void useAsked() {
        b.promise(31, "USE: in how many LAYINGS (cell NONE),", c -> {
            c.due("none", Checks.quilt("gr1c2;s;s").use(0, NONE), 0);
            c.due("too few SQUARES", Checks.quilt("s").use(0, NONE), 0);
            c.due("all", Checks.quilt("gr2c3;lh0;" + EIGHT).use(7, NONE), 15120);
            QuiltLaw x = Twins.rich();
            c.due("3412", x.use(3, NONE), 1);
            c.due("3412", x.use(0, NONE), 0);
            Twins.same(c, "asking changes something", x, Twins.rich());
        });
        b.promise(31, "in how many in a CELL.", c -> {
            c.due("none", Checks.quilt("gr1c2;s;s").use(0, 0), 0);
            c.due("all", Checks.quilt("gr2c3;lh0;" + EIGHT).use(7, 5), 2520);
            for (int cell = 0; cell < 4; cell++) {
                c.due("3412", Twins.rich().use(1, cell), cell == 2 ? 1 : 0);
            }
        });
        b.promise(31, "NONE: no such ones.", c -> {
            for (int cell = -1; cell < 4; cell++) {
                int which = cell;
                noneToAsk(c, "use(-1, " + cell + ")", x -> x.use(-1, which));
                noneToAsk(c, "use(5, " + cell + ")", x -> x.use(5, which));
                Twins.refusedWithoutQuilt(c, "use(0, " + cell + ")", NONE, x -> x.use(0, which));
            }
            noneToAsk(c, "use(3, -2)", x -> x.use(3, -2));
            noneToAsk(c, "use(3, 4)", x -> x.use(3, 4));
            for (int v : Twins.WILD) {
                noneToAsk(c, "use(" + v + ", NONE)", x -> x.use(v, NONE));
                noneToAsk(c, "use(3, " + v + ")", x -> x.use(3, v));
            }
        });
    }

    private void easeAndMendAsked() {
        b.promise(32, "EASE.", c -> {
            QuiltLaw x = Twins.rich();
            c.due("10 and 6", x.ease(), 4);
            Twins.same(c, "asking changes something", x, Twins.rich());
        });
        b.promise(32, "NONE: none,", c -> {
            Twins.refused(c, "another LAW bars", () -> Checks.quilt("gr1c2;s;s"), NONE, QuiltLaw::ease);
            Twins.refused(c, "too few SQUARES", () -> Checks.quilt("s;s;s"), NONE, QuiltLaw::ease);
        });
        b.promise(32, "no QUILT.", c -> Twins.refusedWithoutQuilt(c, "ease()", NONE, QuiltLaw::ease));
        b.promise(33, "MEND: how many (0), the LAYING (1).", c -> {
            QuiltLaw x = Twins.rich();
            mendIs(c, x, 0, 3412);
            Twins.same(c, "asking changes something", x, Twins.rich());
            mendIs(c, laid("gr1c2;lh0s1;sd1;sd2", 0, 1), 2, 10);
        });
        b.promise(33, "NONE: none,", c -> {
            for (int what = 0; what < 2; what++) {
                int which = what;
                Twins.refused(c, "mend(" + what + ")", () -> laid("gr1c2;s;s", 0, 1), NONE, x -> x.mend(which));
                Twins.refused(c, "too few SQUARES", () -> Checks.quilt("s;s;s"), NONE, x -> x.mend(which));
            }
        });
        b.promise(33, "no QUILT,", c -> withoutQuilt(c, QuiltLaw::mend));
        b.promise(33, "no such what.", c -> whats(c, Twins::rich, QuiltLaw::mend));
    }

    private void seamsAndDarkAsked() {
        b.promise(34, "SEAMS.", c -> {
            c.due("none", Checks.quilt("s").seams(), 0);
            QuiltLaw x = laid("s;s;s", 0, 1, 2);
            c.due("two", x.seams(), 2);
            Twins.same(c, "asking changes something", x, laid("s;s;s", 0, 1, 2));
        });
        b.promise(34, "NONE: no QUILT.", c -> Twins.refusedWithoutQuilt(c, "seams()", NONE, QuiltLaw::seams));
        b.promise(35, "DARK: how much (0), in how many ways (1).", c -> {
            QuiltLaw x = laid("s;sd4;s;sd3", 0, 1, 2, 3);
            darkIs(c, x, 13, 1);
            Twins.same(c, "asking changes something", x, laid("s;sd4;s;sd3", 0, 1, 2, 3));
        });
        b.promise(35, "NONE: there is no way,", c -> {
            int[][] without = {{}, {NONE, 1, 2, 3}, {0, 1, 2, NONE}, {0, NONE, NONE, 3}, {0}, {NONE, NONE, NONE, 3}};
            for (int[] squares : without) {
                for (int what = 0; what < 2; what++) {
                    int which = what;
                    Twins.refused(c, "dark(" + what + ")", () -> laid("s;s;s;s", squares), NONE, x -> x.dark(which));
                }
            }
        });
        b.promise(35, "no QUILT,", c -> withoutQuilt(c, QuiltLaw::dark));
        b.promise(35, "no such what.", c -> whats(c, () -> laid("s;s;s;s", 0, 1, 2, 3), QuiltLaw::dark));
    }

    private void hoardAsked() {
        b.promise(36, "HOARD: that lie (0), that do not (1).", c -> {
            QuiltLaw x = Twins.rich();
            hoardIs(c, x, 1, 1, 2);
            hoardIs(c, x, 4, 9, 0);
            hoardIs(c, x, 5, 0, 0);
            Twins.same(c, "asking changes something", x, Twins.rich());
        });
        b.promise(36, "NONE: no QUILT,", c -> withoutQuilt(c, (x, what) -> x.hoard(0, what)));
        b.promise(36, "no such ones (houses 0 .. 9).", c -> {
            for (int house = 0; house <= 9; house++) {
                int which = house;
                noneToAsk(c, "hoard(" + house + ", -1)", x -> x.hoard(which, -1));
                noneToAsk(c, "hoard(" + house + ", 2)", x -> x.hoard(which, 2));
                c.yes("house " + house, Twins.rich().hoard(house, 0) >= 0);
                c.yes("house " + house, Twins.rich().hoard(house, 1) >= 0);
            }
            for (int what = 0; what < 2; what++) {
                int which = what;
                noneToAsk(c, "hoard(-1, " + what + ")", x -> x.hoard(-1, which));
                noneToAsk(c, "hoard(10, " + what + ")", x -> x.hoard(10, which));
                for (int v : Twins.WILD) {
                    noneToAsk(c, "hoard(" + v + ", " + what + ")", x -> x.hoard(v, which));
                }
            }
            for (int v : Twins.WILD) {
                noneToAsk(c, "hoard(1, " + v + ")", x -> x.hoard(1, v));
            }
        });
    }

    private void counts(int what, String words, int none, int rich) {
        b.promise(40, words, c -> {
            c.due("of a new one", new QuiltLaw().count(what), none);
            QuiltLaw x = Twins.rich();
            c.due("of a rich one", x.count(what), rich);
            Twins.same(c, "asking changes something", x, Twins.rich());
        });
    }

    private void count() {
        counts(0, "0 ROWS,", 0, 2);
        counts(1, "1 COLUMNS,", 0, 2);
        counts(2, "2 SQUARES,", 0, 5);
        counts(3, "3 LIKINGS,", 0, 2);
        counts(4, "4 bytes of the TAPE,", 0, 5);
        counts(5, "5 how many SQUARES lie,", 0, 2);
        counts(6, "6 the LIKING that holds (NONE),", NONE, 1);
        counts(7, "7 ACTS that can be UNDONE,", 0, 9);
        counts(8, "8 CORNERS.", 0, 4);
        b.promise(40, "0 ROWS, 1 COLUMNS,", c -> {
            QuiltLaw x = Checks.quilt("gr1c3;s");
            c.due("ROWS", x.count(0), 1);
            c.due("COLUMNS", x.count(1), 3);
        });
        b.promise(40, "HIDDEN for others.", c -> {
            Twins.refused(c, "count(-1)", HIDDEN, x -> x.count(-1));
            Twins.refused(c, "count(9)", HIDDEN, x -> x.count(9));
            for (int v : Twins.WILD) {
                Twins.refused(c, "count(" + v + ")", HIDDEN, x -> x.count(v));
                c.due("without a QUILT", new QuiltLaw().count(v), HIDDEN);
            }
        });
    }
}
