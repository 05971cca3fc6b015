/** For each promise of the document: ordinary inputs, the edges that it names, wrong inputs; answers worked out by hand. */
public final class PromiseTests {
    private static final int NONE = -1;
    private static final int HIDDEN = -1000000;
    private static final int[] WILD = {Integer.MIN_VALUE, -1000000, -2, 10, 64, 477218589, 1 << 30, Integer.MAX_VALUE};

    private final Checks c = new Checks("PromiseTests");

    public static void main(String[] args) {
        PromiseTests t = new PromiseTests();
        t.newObject();
        t.tape();
        t.faultsOfQuilts();
        t.faultsOfLikings();
        t.texts();
        t.squaresAndLaw();
        t.likings();
        t.layTakeTurnUndo();
        t.undoOfMany();
        t.brokenHousesShades();
        t.brokenWeights();
        t.brokenRedsEdges();
        t.likedAndWeighs();
        t.mates();
        t.layings();
        t.layingsStay();
        t.best();
        t.bars();
        t.late();
        t.twist();
        t.twistOfEight();
        t.patch();
        t.bids();
        t.lots();
        t.ones();
        t.uses();
        t.eases();
        t.mends();
        t.seams();
        t.darks();
        t.hoards();
        t.images();
        t.swapsOfRings();
        t.counts();
        t.wildArguments();
        t.c.close();
    }

    private static QuiltLaw quilt(String text) {
        return Checks.quilt(text);
    }

    // Promise 1, and what every other answers while there is no QUILT.
    private void newObject() {
        QuiltLaw x = new QuiltLaw();
        int[] counts = {0, 0, 0, 0, 0, 0, NONE, 0, 0};
        for (int what = 0; what < counts.length; what++) {
            c.due("1: count(" + what + ")", x.count(what), counts[what]);
        }
        c.due("1: constants", QuiltLaw.NONE, NONE);
        c.due("1: constants", QuiltLaw.HIDDEN, HIDDEN);
        withoutQuilt(x);
        Checks.take(x, 1, "y:1");
        withoutQuilt(x);
    }

    private void withoutQuilt(QuiltLaw x) {
        c.due("6: no QUILT", Checks.square(x, 0, 0), Checks.THROWN);
        c.due("7: no QUILT", x.law(0), NONE);
        c.no("8: no QUILT", x.change(0, 1));
        c.due("10: no QUILT", x.lay(0, 0), NONE);
        c.due("11: no QUILT", x.take(0), NONE);
        c.due("12: no QUILT", x.turn(0, 1), NONE);
        c.due("13: no QUILT", x.undo(), NONE);
        c.due("14: no QUILT", x.cell(0), NONE);
        c.due("15: no QUILT", x.broken(0), NONE);
        c.due("16: no QUILT", x.first(0), NONE);
        c.due("16: no QUILT", x.first(1), NONE);
        c.due("17: no QUILT", x.liked(), HIDDEN);
        c.due("18: no QUILT", x.weighs(0), NONE);
        c.due("19: no QUILT", x.mates(0), NONE);
        c.due("20: no QUILT", x.layings(NONE), NONE);
        c.due("20: no QUILT", x.layings(0), NONE);
        c.due("21: no QUILT", x.best(0), HIDDEN);
        c.due("21: no QUILT", x.best(1), HIDDEN);
        c.due("22: no QUILT", x.bars(), NONE);
        c.due("23: no QUILT", x.late(0, 0, 0), NONE);
        c.due("24: no QUILT", x.twist(0), NONE);
        c.due("24: no QUILT", x.twist(1), NONE);
        c.due("25: no QUILT", x.patch(0, 0), HIDDEN);
        c.no("26: no QUILT", x.bid(0, 0, 1));
        c.due("27: no QUILT", x.won(0), NONE);
        c.due("27: no QUILT", x.won(1), NONE);
        c.due("28: no QUILT", x.price(0), NONE);
        c.due("29: no QUILT", x.lot(1), NONE);
        c.due("30: no QUILT", x.one(1), NONE);
        c.due("31: no QUILT", x.use(0, NONE), NONE);
        c.due("31: no QUILT", x.use(0, 0), NONE);
        c.due("32: no QUILT", x.ease(), NONE);
        c.due("33: no QUILT", x.mend(0), NONE);
        c.due("33: no QUILT", x.mend(1), NONE);
        c.due("34: no QUILT", x.seams(), NONE);
        c.due("35: no QUILT", x.dark(0), NONE);
        c.due("36: no QUILT", x.hoard(0, 0), NONE);
        c.due("37: no QUILT", x.image(), NONE);
        c.due("38: no QUILT", x.back(), NONE);
        c.due("39: no QUILT", x.swaps(), NONE);
    }

    // Promises 2 and 3.
    private void tape() {
        QuiltLaw x = new QuiltLaw();
        c.due("2: zeros alone", x.feed(0, 0, 0, 0, 0), 0);
        c.due("2: highest first", x.feed('s' << 24 | 'h' << 16 | '3' << 8 | 'd', '4' << 24, 0, 'w' << 8 | '5', 'k'), 8);
        c.due("2: ends too early", x.fault(0), 8);
        c.due("2: fed on", x.feed(0, 0, '2', 0, 0), 9);
        c.due("2: whole", x.fault(0), NONE);
        c.due("2: taken", x.text(0), 1);
        c.due("2: house", Checks.square(x, 0, 0), 3);
        c.due("2: shade", Checks.square(x, 0, 1), 4);
        c.due("2: weight", Checks.square(x, 0, 2), 5);
        c.due("2: colour", Checks.square(x, 0, 3), 2);
        c.due("2: bytes of 255", x.feed(-1, -1, -1, -1, -1), 20);
        for (int n = 2; n <= 7; n++) {
            c.due("2: twenty more", x.feed(-1, 1 << 24 | 1 << 16 | 1 << 8 | 1, -1, -1, -1), n * 20);
        }
        c.due("2: nineteen more", x.feed(-1, -1, -1, -1, 0x00202020), 159);
        c.due("2: 161 would be more than 160", x.feed(0, 0x01000001, 0, 0, 0), NONE);
        c.due("2: refused changes nothing", x.count(4), 159);
        c.due("2: 160", x.feed(0, 0, 0, 0x00010000, 0), 160);
        c.due("2: no more", x.feed(0, 0, 0, 0, 1), NONE);
        for (int k = 0; k < 5; k++) {
            int[] one = new int[5];
            one[k] = 0x00ff0000;
            c.due("2: not one more", x.feed(one[0], one[1], one[2], one[3], one[4]), NONE);
            one[k] = 0x7f7f7f7f;
            x.end(157);
            c.due("2: not four for three", x.feed(one[0], one[1], one[2], one[3], one[4]), NONE);
            c.due("2: nothing of it", x.count(4), 157);
            one[k] = 0x7f7f007f;
            c.due("2: three for three", x.feed(one[0], one[1], one[2], one[3], one[4]), 160);
        }
        c.due("2: nothing more", x.feed(0, 0, 0, 0, 0), 160);
        c.due("2: bytes", x.count(4), 160);
        c.no("3: more than there are", x.end(161));
        c.no("3: below nothing", x.end(-1));
        c.due("3: refused changes nothing", x.count(4), 160);
        c.yes("3: all", x.end(160));
        c.due("3: all", x.count(4), 160);
        c.yes("3: fewer", x.end(7));
        c.due("3: fewer", x.count(4), 7);
        c.no("3: what was is gone", x.end(8));
        c.yes("3: none", x.end(0));
        c.due("3: none", x.count(4), 0);
        Checks.feed(x, "sh9;x");
        c.due("3: faulty", x.fault(0), 4);
        c.yes("3: cut", x.end(3));
        c.due("3: the first bytes stay", x.text(0), 1);
        c.due("3: the first bytes stay", Checks.square(x, 0, 0), 9);
    }

    // Promise 4, sort 0.
    private void faultsOfQuilts() {
        QuiltLaw x = new QuiltLaw();
        String[] whole = {
            "s", " s ", "s;g", "l;s", "g;s;l", "s;l;g", "s;s;s;s;s;s;s;s", "g;s;s;s;s;s;s;s;s;l", "gr1c3;s", "gc1r3;s",
            "sh0d0w0k0l0e0000", "sh9d9w9k2l9e9999", "se0987l1k2w3d4h5", " g r 1 c 2 ; s h 3 e 1234 ; l h 0 s 2 w 9 r 1 e 1 ",
            "lh1s0w0r0e0;s", "se 1234", "s k 2 ;  s"};
        for (String text : whole) {
            c.due("4: fault of " + text, Checks.fault(0, text), NONE);
        }
        String[] early = {"", " ", "g", "l", "l;g", "g;", "s;", "s;g;", "g;l ", "sh", "lw", "gr", "se1", "se"};
        for (String text : early) {
            faultAt(0, text, text.length());
        }
        String[] atOnce = {"x", "S", ";", "r", "1", "y:1", "G", "\u00f3", "\n"};
        for (String text : atOnce) {
            faultAt(0, text, 0);
        }
        faultAt(0, "s;;s", 2);
        faultAt(0, "s1", 1);
        faultAt(0, "s,", 1);
        faultAt(0, "gr0;s", 2);
        faultAt(0, "gr4;s", 2);
        faultAt(0, "gc0;s", 2);
        faultAt(0, "gc4;s", 2);
        faultAt(0, "gr1c1r1;s", 5);
        faultAt(0, "gr12;s", 3);
        faultAt(0, "gh1;s", 1);
        faultAt(0, "g;s;g", 4);
        faultAt(0, "s;gr1;s;gr1", 8);
        faultAt(0, "l;s;l", 4);
        faultAt(0, "lh2;s", 2);
        faultAt(0, "ls3;s", 2);
        faultAt(0, "lw/;s", 2);
        faultAt(0, "lr2;s", 2);
        faultAt(0, "le2;s", 2);
        faultAt(0, "lk1;s", 1);
        faultAt(0, "lh1s2w3r1e0h1;s", 11);
        faultAt(0, "lw12;s", 3);
        faultAt(0, "le00;s", 3);
        faultAt(0, "sh:", 2);
        faultAt(0, "sk3", 2);
        faultAt(0, "sh1h1", 3);
        faultAt(0, "sh1 2", 4);
        faultAt(0, "se123", 5);
        faultAt(0, "se123;s", 5);
        faultAt(0, "se12 34", 4);
        faultAt(0, "se12345", 6);
        faultAt(0, "se123x", 5);
        faultAt(0, "se1234e1234", 6);
        faultAt(0, "ss", 1);
        faultAt(0, "s s", 2);
        faultAt(0, "s;s;s;s;s;s;s;s;s", 16);
        faultAt(0, "s ;s;s;s; s;s;s;s; s", 19);
        faultAt(0, "g  ", 3);
        faultAt(0, "g;l  ", 5);
        faultAt(0, "s\t", 1);
        faultAt(0, "s;\u00f3", 2);
        faultAt(0, "sh\u00b1", 2);
        c.due("4: no such sort", x.fault(2), -2);
        c.due("4: no such sort", x.fault(-1), -2);
        Checks.feed(x, "sh1");
        c.due("4: tells, changes nothing", x.fault(0), NONE);
        c.due("4: tells, changes nothing", x.count(4), 3);
        c.due("4: tells, changes nothing", x.count(2), 0);
        c.due("4: the same TAPE as a LIKING", x.fault(1), 0);
    }

    private void faultAt(int sort, String text, int at) {
        c.due("4: fault of '" + text + "'", Checks.fault(sort, text), at);
    }

    // Promise 4, sort 1.
    private void faultsOfLikings() {
        String[] whole = {
            "y:1", "y:r", "y:c", "y:h", "y:d", "y:w", "y:k", "y:l", "y:0000", "y:9999", "y:[r]", "y : 1 ; y : 2",
            "y:r=1?2", "y:r<1?2", "y:r>1?2;y:3", "y:!r=1?2", "y:(r=1)?2", "y:!(r=1|c=2)&!k=0?w*d/3-[2+h]", "y:r+1=c*2?0",
            "y:[[[[[[1]]]]]]", "y:!!!!!!r=1?1", "y:((((((r=1))))))?1", "y:!(!(!(r=1)))?1", "y:!(!(![r]=1))?[[[[[[2]]]]]]",
            "y:[1]+[[2]]", "y:!!!!!!r=1&!!!!!!c=1?1", " y : ! ( r = 1 ) ? 12 * [ 3 ] "};
        for (String text : whole) {
            faultAt(1, text, NONE);
        }
        faultAt(1, "", 0);
        faultAt(1, "  ", 2);
        faultAt(1, "s", 0);
        faultAt(1, "y", 1);
        faultAt(1, "y1", 1);
        faultAt(1, "y:", 2);
        faultAt(1, "y:;", 2);
        faultAt(1, "y:?1", 2);
        faultAt(1, "y:y", 2);
        faultAt(1, "y:-1", 2);
        faultAt(1, "y:12345", 6);
        faultAt(1, "y:00000", 6);
        faultAt(1, "y:12 34", 5);
        faultAt(1, "y:1r", 3);
        faultAt(1, "y:rc", 3);
        faultAt(1, "y:1;", 4);
        faultAt(1, "y:1;;", 4);
        faultAt(1, "y:1;s", 4);
        faultAt(1, "y:1?2", 3);
        faultAt(1, "y:1&r=1?2", 3);
        faultAt(1, "y:r=1", 5);
        faultAt(1, "y:r=1;y:2", 5);
        faultAt(1, "y:r=1=1?2", 5);
        faultAt(1, "y:r==1?2", 4);
        faultAt(1, "y:r<=1?2", 4);
        faultAt(1, "y:r=1?", 6);
        faultAt(1, "y:r=1?r=1", 7);
        faultAt(1, "y:r=1?r=1?1", 7);
        faultAt(1, "y:r=1?(1)", 6);
        faultAt(1, "y:r=1&2?1", 7);
        faultAt(1, "y:r=1|?1", 6);
        faultAt(1, "y:(1)", 4);
        faultAt(1, "y:(r=1", 6);
        faultAt(1, "y:(r=1]?1", 6);
        faultAt(1, "y:(r=1)", 7);
        faultAt(1, "y:(r=1)+1", 7);
        faultAt(1, "y:(r=1)=1?1", 7);
        faultAt(1, "y:()", 3);
        faultAt(1, "y:!1", 4);
        faultAt(1, "y:!1;", 4);
        faultAt(1, "y:!?1", 3);
        faultAt(1, "y:[r=1]", 4);
        faultAt(1, "y:[!r=1]", 3);
        faultAt(1, "y:[(r=1)]", 3);
        faultAt(1, "y:[]", 3);
        faultAt(1, "y:[1", 4);
        faultAt(1, "y:[1)", 4);
        faultAt(1, "y:1]", 3);
        faultAt(1, "y:1+", 4);
        faultAt(1, "y:1+*2", 4);
        faultAt(1, "y:1*-2", 4);
        faultAt(1, "y:2(r=1)", 3);
        faultAt(1, "y:[[[[[[[1]]]]]]]", 8);
        faultAt(1, "y:!!!!!!!r=1?1", 8);
        faultAt(1, "y:(((((((r=1)))))))?1", 8);
        faultAt(1, "y:!(!(!([r]=1)))?1", 8);
        faultAt(1, "y:!(!(!r=[1]))?1", NONE);
        faultAt(1, "y:!(!(!!r=[1]))?1", 10);
        faultAt(1, "y:r=[[[[[[[1", 10);
        faultAt(1, "y:R", 2);
        faultAt(1, "y:1\u0080", 3);
    }

    // Promise 5.
    private void texts() {
        QuiltLaw x = new QuiltLaw();
        c.due("5: nothing fed", x.text(0), NONE);
        c.due("5: four squares", Checks.take(x, 0, "s;s;s;gr1c2;s"), 4);
        c.due("5: the TAPE is empty then", x.count(4), 0);
        c.due("5: a FAULT", Checks.take(x, 0, "s;gr9"), NONE);
        c.due("5: the TAPE stays", x.count(4), 5);
        c.due("5: the QUILT stays", x.count(2), 4);
        c.due("5: ROWS stay", x.count(0), 1);
        c.yes("5: cleared", x.end(0));
        Checks.feed(x, "s");
        c.due("5: no such sort", x.text(2), NONE);
        c.due("5: no such sort", x.text(-1), NONE);
        c.due("5: a QUILT is no LIKING", x.text(1), NONE);
        c.due("5: the TAPE stays", x.count(4), 1);
        for (int n = 0; n < 4; n++) {
            c.due("5: a LIKING", Checks.take(x, 1, "y:" + (n + 5)), n);
            c.due("5: LIKINGS", x.count(3), n + 1);
            c.due("5: the TAPE is empty then", x.count(4), 0);
        }
        c.due("5: a fifth LIKING", Checks.take(x, 1, "y:9"), NONE);
        c.due("5: a fifth LIKING has no FAULT", x.fault(1), NONE);
        c.due("5: the TAPE stays", x.count(4), 3);
        c.due("5: LIKINGS", x.count(3), 4);
        c.yes("5: which holds", x.liking(2));
        x.lay(0, 1);
        x.bid(1, 0, 7);
        x.image();
        x.turn(1, 1);
        x.change(0, 0);
        c.due("5: liked", x.liked(), 7);
        c.due("5: another QUILT", Checks.take(x, 0, "s;s;gr1c2"), 2);
        c.due("5: nothing lies", x.count(5), 0);
        c.due("5: no ACTS", x.count(7), 0);
        c.due("5: no ACTS", x.undo(), NONE);
        c.due("5: no BIDS", x.won(0), 0);
        c.due("5: no IMAGE", x.back(), NONE);
        c.due("5: no IMAGE", x.swaps(), NONE);
        c.due("5: not TURNED", Checks.square(x, 1, 6), 0);
        c.due("5: its own LAW", x.law(0), 1);
        c.due("5: LIKINGS stay", x.count(3), 4);
        c.due("5: which holds stays", x.count(6), 2);
        x.lay(0, 0);
        c.due("5: which holds stays", x.liked(), 7);
    }

    // Promises 6, 7 and 8.
    private void squaresAndLaw() {
        QuiltLaw x = quilt("s;se1234l2k1w3d4h6;sh9d0w9k2l0e9870");
        int[][] given = {{0, 5, 1, 0, 1, 0, 0, NONE}, {6, 4, 3, 1, 2, 1234, 0, NONE}, {9, 0, 9, 2, 0, 9870, 0, NONE}};
        for (int square = 0; square < 3; square++) {
            for (int what = 0; what < 8; what++) {
                c.due("6: square(" + square + ", " + what + ")", Checks.square(x, square, what), given[square][what]);
            }
            c.due("6: no such what", Checks.square(x, square, 8), Checks.THROWN);
            c.due("6: no such what", Checks.square(x, square, -1), Checks.THROWN);
        }
        c.due("6: no such SQUARE", Checks.square(x, 3, 0), Checks.THROWN);
        c.due("6: no such SQUARE", Checks.square(x, -1, 7), Checks.THROWN);
        x.lay(3, 1);
        c.due("6: its CELL", Checks.square(x, 1, 7), 3);
        int[] turned = {1234, 4123, 3412, 2341};
        for (int turn = 3; turn >= 0; turn--) {
            x.turn(1, turn);
            c.due("6: EDGES as TURNED", Checks.square(x, 1, 5), turned[turn]);
            c.due("6: TURNED", Checks.square(x, 1, 6), turn);
        }
        x.turn(2, 1);
        c.due("6: a mark of 0 ahead", Checks.square(x, 2, 5), 987);
        int[] first = {1, 0, 9, 0, 0};
        int[] other = {0, 2, 3, 1, 1};
        int[] highest = {1, 2, 9, 1, 1};
        QuiltLaw y = quilt("s;le1r1w3s2h0");
        for (int what = 0; what < 5; what++) {
            c.due("7: the LAW at first", x.law(what), first[what]);
            c.due("7: the LAW as told", y.law(what), other[what]);
            c.no("8: above", y.change(what, highest[what] + 1));
            c.no("8: below", y.change(what, -1));
            c.due("8: refused changes nothing", y.law(what), other[what]);
            for (int v = 0; v <= highest[what]; v++) {
                c.yes("8: changed", y.change(what, v));
                c.due("8: changed", y.law(what), v);
            }
            c.yes("8: as it is", y.change(what, highest[what]));
        }
        c.due("7: no such what", x.law(5), NONE);
        c.due("7: no such what", x.law(-1), NONE);
        c.no("8: no such what", x.change(5, 0));
        c.no("8: no such what", x.change(-1, 0));
        c.due("8: is no ACT", y.count(7), 0);
    }

    // Promise 9, and what a LIKING is worth.
    private void likings() {
        QuiltLaw x = new QuiltLaw();
        c.yes("9: none holds", x.liking(NONE));
        c.no("9: no such one", x.liking(0));
        c.no("9: no such one", x.liking(-2));
        Checks.take(x, 1, "y:7");
        c.due("9: none holds at first", x.count(6), NONE);
        c.yes("9: holds", x.liking(0));
        c.due("9: holds", x.count(6), 0);
        c.no("9: no such one", x.liking(1));
        c.due("9: refused changes nothing", x.count(6), 0);
        c.yes("9: none holds", x.liking(NONE));
        c.due("9: none holds", x.count(6), NONE);
        worth("1+2*3-4", 3);
        worth("2*[3+4]", 14);
        worth("7/2", 3);
        worth("[0-7]/2", -3);
        worth("7/[0-2]", -3);
        worth("5/0", 0);
        worth("5/0+3", 3);
        worth("9/2*2", 8);
        worth("2*9/4/2", 2);
        worth("10-3-2", 5);
        worth("9999*9999", 1000000);
        worth("0-9999*9999", -1000000);
        worth("9999*9999-1", 999999);
        worth("9999*9999+5-5", 999995);
        worth("[0-9999*9999]-5+5", -999995);
        worth("9999*9999*9999/9999", 100);
        worth("1000*1000", 1000000);
        worth("1000*1000+1", 1000000);
        worth("[0-9999*9999]*9999*9999", -1000000);
        worth("0012", 12);
        worth("r", 1);
        worth("c", 2);
        worth("h", 3);
        worth("d", 4);
        worth("w", 6);
        worth("k", 2);
        worth("l", 8);
        worth("r*1000+c*100+h*10+d", 1234);
        worth("r=1?5", 5);
        worth("r=0?5", 0);
        worth("r<1?5;y:r>0?6;y:7", 6);
        worth("3<3?1;y:3>3?2;y:3<4?3", 3);
        worth("4>3?1", 1);
        worth("r=0?5;y:7;y:9", 7);
        worth("1;y:2", 1);
        worth("!r=0?5;y:6", 5);
        worth("!!r=0?5;y:6", 6);
        worth("!r=1&c=9?5;y:6", 6);
        worth("!(r=1&c=9)?5;y:6", 5);
        worth("r=1|r=0&r=0?5;y:6", 5);
        worth("(r=1|r=0)&r=0?5;y:6", 6);
        worth("r=0&r=0|r=1?5;y:6", 5);
        worth("r=0|c=2?5;y:6", 5);
        worth("r=0|c=1?5;y:6", 6);
        worth("r+1=c*1?5;y:6", 5);
        worth("[r+1]*2=4?[5]", 5);
        worth(" r = 1 ? 12 ", 12);
    }

    private void worth(String rest, int want) {
        QuiltLaw x = quilt("gc3;s;sh3d4w6k2l8");
        c.due("9: a LIKING y:" + rest, Checks.take(x, 1, "y:" + rest), 0);
        x.lay(5, 1);
        c.due("17: LIKED without a LIKING", x.liked(), 8);
        x.liking(0);
        c.due("17: WORTH of y:" + rest, x.liked(), want);
    }

    // Promises 10 to 14.
    private void layTakeTurnUndo() {
        QuiltLaw x = quilt("gr1c3;s;s;s");
        c.due("10: no such CELL", x.lay(3, 0), NONE);
        c.due("10: no such CELL", x.lay(-1, 0), NONE);
        c.due("10: no such SQUARE", x.lay(0, 3), NONE);
        c.due("10: no such SQUARE", x.lay(0, -1), NONE);
        c.due("13: none", x.undo(), NONE);
        c.due("10: laid", x.lay(1, 2), 1);
        c.due("14: laid", x.cell(1), 2);
        c.due("10: the CELL is laid", x.lay(1, 0), NONE);
        c.due("10: the SQUARE lies", x.lay(0, 2), NONE);
        c.due("10: the SQUARE lies there", x.lay(1, 2), NONE);
        c.due("10: refused is no ACT", x.count(7), 1);
        c.due("10: laid", x.lay(0, 0), 2);
        c.due("11: empty", x.take(2), NONE);
        c.due("11: no such CELL", x.take(3), NONE);
        c.due("11: no such CELL", x.take(-1), NONE);
        c.due("11: taken", x.take(1), 3);
        c.due("14: empty", x.cell(1), NONE);
        c.due("6: no CELL", Checks.square(x, 2, 7), NONE);
        c.due("12: no such SQUARE", x.turn(3, 1), NONE);
        c.due("12: no such SQUARE", x.turn(-1, 1), NONE);
        c.due("12: no such turn", x.turn(0, 4), NONE);
        c.due("12: no such turn", x.turn(0, -1), NONE);
        c.due("12: it is so", x.turn(0, 0), NONE);
        c.due("12: TURNED", x.turn(0, 3), 4);
        c.due("12: it is so", x.turn(0, 3), NONE);
        c.due("12: one that does not lie", x.turn(2, 1), 5);
        c.due("12: TURNED", Checks.square(x, 2, 6), 1);
        c.due("13: undone", x.undo(), 4);
        c.due("13: as it was", Checks.square(x, 2, 6), 0);
        c.due("13: others stay", Checks.square(x, 0, 6), 3);
        c.due("13: undone", x.undo(), 3);
        c.due("13: as it was", Checks.square(x, 0, 6), 0);
        c.due("13: undone", x.undo(), 2);
        c.due("13: lies again", x.cell(1), 2);
        c.due("13: undone", x.undo(), 1);
        c.due("13: empty again", x.cell(0), NONE);
        c.due("10: an ACT on top", x.lay(2, 1), 2);
        c.due("13: undone", x.undo(), 1);
        c.due("13: undone", x.undo(), 0);
        c.due("13: nothing lies", x.count(5), 0);
        c.due("13: none", x.undo(), NONE);
        c.due("14: no such CELL", x.cell(3), NONE);
        c.due("14: no such CELL", x.cell(-1), NONE);
        c.due("10: laid", x.lay(0, 0), 1);
        x.change(0, 0);
        c.due("13: undone", x.undo(), 0);
        c.due("13: the LAW is not", x.law(0), 0);
    }

    private void undoOfMany() {
        QuiltLaw x = quilt("s;s");
        for (int n = 1; n <= 45; n++) {
            c.due("12: forty ACTS at most", x.turn(n % 2, (n + 1) / 2 % 4), Math.min(n, 40));
        }
        c.due("40: forty ACTS at most", x.count(7), 40);
        for (int n = 44; n >= 5; n--) {
            c.due("13: forty ACTS", x.undo(), n - 5);
            c.due("13: the latest first", Checks.square(x, n % 2, 6), (n + 1) / 2 % 4);
        }
        c.due("13: none", x.undo(), NONE);
        c.due("13: the first five stay", Checks.square(x, 1, 6), 3);
        c.due("13: the first five stay", Checks.square(x, 0, 6), 2);
        c.due("12: on again", x.turn(0, 0), 1);
    }

    private static void layAll(QuiltLaw x, int... squares) {
        for (int cell = 0; cell < squares.length; cell++) {
            if (squares[cell] >= 0) {
                x.lay(cell, squares[cell]);
            }
        }
    }

    private void brokenAre(String what, QuiltLaw x, int... bits) {
        for (int cell = 0; cell < bits.length; cell++) {
            c.due(what + ": broken(" + cell + ")", x.broken(cell), bits[cell]);
        }
    }

    // Promises 15 and 16, LAWS 0 and 1.
    private void brokenHousesShades() {
        QuiltLaw x = quilt("gr2c3;sh1d1;sh1d2;sh2d2;sh2d3;sh1d3;sh3d1");
        c.due("16: nothing lies", x.first(0), NONE);
        layAll(x, 0, 1, 2, 3, 4, NONE);
        brokenAre("15: HOUSES", x, 0, 1, 0, 0, 1, NONE);
        c.due("15: no such CELL", x.broken(6), NONE);
        c.due("15: no such CELL", x.broken(-1), NONE);
        c.due("16: CELL", x.first(0), 1);
        c.due("16: LAW", x.first(1), 0);
        c.due("16: no such what", x.first(2), NONE);
        c.due("16: no such what", x.first(-1), NONE);
        x.change(0, 0);
        brokenAre("15: no LAW", x, 0, 0, 0, 0, 0, NONE);
        c.due("16: LAWFUL", x.first(0), NONE);
        c.due("16: LAWFUL", x.first(1), NONE);
        x.change(1, 1);
        brokenAre("15: SHADES 1", x, 0, 2, 0, 0, 0, NONE);
        c.due("16: CELL", x.first(0), 1);
        c.due("16: LAW", x.first(1), 1);
        x.change(1, 2);
        brokenAre("15: SHADES 2", x, 0, 2, 0, 2, 2, NONE);
        x.change(0, 1);
        brokenAre("15: both", x, 0, 3, 0, 2, 3, NONE);
        c.due("16: the lowest LAW", x.first(1), 0);
        x.take(0);
        brokenAre("15: taken", x, NONE, 0, 0, 0, 3, NONE);
        c.due("16: CELL", x.first(0), 4);
        x.take(1);
        brokenAre("15: nothing beside", x, NONE, NONE, 0, 0, 0, NONE);
        QuiltLaw y = quilt("gr2c2;sh1;sh2;sh1");
        layAll(y, NONE, 0, 2);
        brokenAre("15: the end of a ROW is not beside the next", y, NONE, 0, 0, NONE);
    }

    // Promise 15, LAW 2.
    private void brokenWeights() {
        QuiltLaw x = quilt("gr3c2;lh0w2;sw0;sw5;sw2;sw1;sw8;sw0");
        layAll(x, 0, 1, 2, 3, 4, NONE);
        brokenAre("15: two less is no more than WEIGHTS", x, 0, 0, 0, 0, 0, NONE);
        c.due("15: full", x.lay(5, 5), 6);
        brokenAre("15: more than any ahead", x, 0, 0, 0, 0, 0, 4);
        c.due("16: CELL", x.first(0), 5);
        c.due("16: LAW", x.first(1), 2);
        x.change(2, 3);
        brokenAre("15: 8 is 5 above 3", x, 0, 0, 0, 0, 0, 4);
        x.change(2, 4);
        brokenAre("15: 8 is 5 above 3", x, 0, 0, 0, 0, 0, 4);
        x.change(2, 5);
        brokenAre("15: 5 is no more than 5", x, 0, 0, 0, 0, 0, 0);
        x.change(2, 1);
        brokenAre("15: 3 is 2 less than 5", x, 0, 0, 0, 4, 0, 4);
        x.take(2);
        brokenAre("15: the one between is not full", x, 0, 0, NONE, 0, 0, 4);
        x.take(0);
        brokenAre("15: no full ROW ahead", x, NONE, 0, NONE, 0, 0, 0);
        QuiltLaw y = quilt("gr2c1;lh0w8;sw9;sw0");
        layAll(y, 0, 1);
        brokenAre("15: nine is more than eight", y, 0, 4);
        y.change(2, 9);
        brokenAre("15: nine: not asked", y, 0, 0);
        QuiltLaw z = quilt("gr2c3;lh0w8;sw9;sw9;sw9;sw0;sw0;sw0");
        layAll(z, 0, 1, 2, 3, 4, 5);
        brokenAre("15: 27 less", z, 0, 0, 0, 0, 0, 4);
        z.change(2, 9);
        brokenAre("15: not asked", z, 0, 0, 0, 0, 0, 0);
    }

    // Promise 15, LAWS 3 and 4.
    private void brokenRedsEdges() {
        QuiltLaw x = quilt("gr2c2;lh0r1;sk1;sk2;sk2;sk1;s;sk1");
        layAll(x, 0, 1, 2, 3);
        brokenAre("15: REDS", x, 0, 8, 8, 8);
        c.due("16: LAW", x.first(1), 3);
        x.change(3, 0);
        brokenAre("15: no LAW", x, 0, 0, 0, 0);
        x.change(3, 1);
        x.take(0);
        x.lay(0, 4);
        brokenAre("15: plain", x, 0, 0, 0, 8);
        x.take(1);
        x.take(2);
        x.lay(1, 5);
        brokenAre("15: red beside red", x, 0, 0, NONE, 0);
        QuiltLaw y = quilt("gr2c2;lh0e1;se1234;se5264;se3871;se6998");
        layAll(y, 0, 1, 2, 3);
        // Right of 0 is 2, left of 1 is 4; below 0 is 3, above 2 is 3; below 1 is 6, above 3 is 6; right of 2 is 8, left of 3 is 8.
        brokenAre("15: EDGES", y, 0, 16, 0, 0);
        c.due("16: LAW", y.first(1), 4);
        y.turn(1, 2);
        // 6452: left is 2 now, below is 5.
        brokenAre("15: EDGES TURNED", y, 0, 0, 0, 16);
        y.change(4, 0);
        brokenAre("15: no LAW", y, 0, 0, 0, 0);
        y.change(0, 1);
        y.change(4, 1);
        brokenAre("15: HOUSES and EDGES", y, 0, 1, 1, 17);
    }

    // Promises 17 and 18.
    private void likedAndWeighs() {
        QuiltLaw x = quilt("gr2c2;sw2l3;sw4l9;sw9l0;sl5w0");
        c.due("17: nothing lies", x.liked(), 0);
        c.due("18: nothing lies", x.weighs(0), 0);
        layAll(x, 1, NONE, 2, 0);
        c.due("17: LIKED together", x.liked(), 12);
        c.due("18: a ROW", x.weighs(0), 4);
        c.due("18: a ROW", x.weighs(1), 11);
        c.due("18: no such one", x.weighs(2), NONE);
        c.due("18: no such one", x.weighs(-1), NONE);
        Checks.take(x, 1, "y:r*100+c*10+l-20");
        x.liking(0);
        // 9 - 20, 100 - 20, 110 + 3 - 20
        c.due("17: a LIKING", x.liked(), -11 + 80 + 93);
        x.liking(NONE);
        c.due("17: LIKED again", x.liked(), 12);
        Checks.take(x, 1, "y:9999*9999");
        x.liking(1);
        c.due("17: bounds are of each, not of all", x.liked(), 3000000);
    }

    // Promise 19.
    private void mates() {
        QuiltLaw x = quilt("gr1c1;sh1d3k1e1234;sh2d4e0001;sh1d2e0002;sh3d3k2e0002;sh4d1e2000");
        c.due("19: HOUSES", x.mates(0), 2 | 8 | 16);
        c.due("19: HOUSES", x.mates(1), 1 | 4 | 8 | 16);
        x.change(1, 1);
        c.due("19: SHADES", x.mates(0), 8 | 16);
        c.due("19: SHADES", x.mates(4), 0);
        x.change(1, 2);
        c.due("19: SHADES", x.mates(1), 1 | 4 | 8 | 16);
        x.change(3, 1);
        c.due("19: REDS", x.mates(0), 16);
        c.due("19: REDS", x.mates(3), 4 | 16);
        x.change(1, 0);
        x.change(3, 0);
        x.change(4, 1);
        c.due("19: EDGES", x.mates(0), 8);
        x.turn(4, 3);
        c.due("19: EDGES TURNED", x.mates(0), 8 | 16);
        x.turn(0, 1);
        c.due("19: EDGES TURNED", x.mates(0), 2);
        x.change(2, 0);
        c.due("19: WEIGHTS not asked", x.mates(0), 2);
        x.lay(0, 1);
        c.due("19: of these two alone", x.mates(0), 2);
        c.due("19: no such SQUARE", x.mates(5), NONE);
        c.due("19: no such SQUARE", x.mates(-1), NONE);
    }

    private void layingsAre(String what, QuiltLaw x, int... codes) {
        c.due(what + ": layings(NONE)", x.layings(NONE), codes.length);
        for (int i = 0; i < codes.length; i++) {
            c.due(what + ": layings(" + i + ")", x.layings(i), codes[i]);
        }
        c.due(what + ": behind the last", x.layings(codes.length), NONE);
        c.due(what + ": no such one", x.layings(-2), NONE);
    }

    // Promise 20.
    private void layings() {
        layingsAre("20: no LAW", quilt("gr1c2;lh0;s;s;s"), 1, 2, 10, 12, 20, 21);
        layingsAre("20: HOUSES", quilt("sh1;sh2;sh1;sh2"), 132, 312, 1023, 1203, 2130, 2310, 3021, 3201);
        layingsAre("20: fewer SQUARES than CELLS", quilt("sh1;sh2;sh3"));
        layingsAre("20: nine CELLS", quilt("gr3c3;lh0;s;s;s;s;s;s;s;s"));
        layingsAre("20: one CELL", quilt("gr1c1;s;s"), 0, 1);
        layingsAre("20: SHADES 1", quilt("gr1c2;lh0s1;sd1;sd2;sd2"), 10, 12, 20, 21);
        layingsAre("20: SHADES 1 below", quilt("gr2c1;lh0s1;sd1;sd2"), 1, 10);
        layingsAre("20: SHADES 2 below", quilt("gr2c1;lh0s2;sd1;sd2"), 10);
        layingsAre("20: WEIGHTS", quilt("gr3c1;lh0w3;sw0;sw3;sw4;sw1"), 13, 31, 103, 123, 130, 132, 213, 231, 301, 310, 312, 321);
        layingsAre("20: REDS", quilt("gr1c2;lh0r1;sk1;sk2;sk0"), 2, 12, 20, 21);
        layingsAre("20: EDGES", quilt("gr1c2;le1h0;se0000;se1000;se0001"), 1, 10, 20, 21);
        QuiltLaw x = quilt("gr2c3;lh0;s;s;s;s;s;s;s;s");
        c.due("20: eight in six", x.layings(NONE), 20160);
        c.due("20: the least", x.layings(0), 12345);
        c.due("20: the greatest", x.layings(20159), 765432);
        c.due("20: no such one", x.layings(20160), NONE);
        c.due("20: no such one", x.layings(Integer.MAX_VALUE), NONE);
    }

    private void layingsStay() {
        QuiltLaw x = quilt("gr1c3;lh0;s;s;s");
        x.lay(1, 0);
        layingsAre("20: one stays", x, 102, 201);
        x.lay(0, 2);
        layingsAre("20: two stay", x, 201);
        x.lay(2, 1);
        layingsAre("20: all stay", x, 201);
        x.change(0, 1);
        layingsAre("20: they break a LAW", x);
        x.change(0, 0);
        x.undo();
        x.undo();
        layingsAre("20: undone", x, 102, 201);
        QuiltLaw y = quilt("gr1c2;lh0e1;se0100;se0010;se1000");
        layingsAre("20: EDGES", y, 10, 12, 20, 21);
        y.turn(1, 1);
        layingsAre("20: TURNED ones that do not lie", y, 1, 10, 12, 20);
        y.lay(1, 1);
        layingsAre("20: TURNED ones that lie", y, 1);
        y.turn(0, 1);
        layingsAre("20: TURNED", y);
    }

    // Promise 21.
    private void best() {
        QuiltLaw x = quilt("gr1c2;lh0;sl3;sl5;sl5;sl1");
        c.due("21: the LAYING, of several the least", x.best(0), 12);
        c.due("21: how much", x.best(1), 10);
        c.due("21: no such what", x.best(2), HIDDEN);
        c.due("21: no such what", x.best(-1), HIDDEN);
        Checks.take(x, 1, "y:c=1?l*2");
        x.liking(0);
        c.due("21: a LIKING of CELLS", x.best(0), 1);
        c.due("21: a LIKING of CELLS", x.best(1), 10);
        Checks.take(x, 1, "y:0-l");
        x.liking(1);
        c.due("21: below nothing", x.best(0), 3);
        c.due("21: below nothing", x.best(1), -4);
        x.liking(NONE);
        x.lay(0, 3);
        c.due("21: one stays", x.best(0), 31);
        c.due("21: one stays", x.best(1), 6);
        x.change(0, 1);
        c.due("21: none", x.best(0), HIDDEN);
        c.due("21: none", x.best(1), HIDDEN);
    }

    // Promise 22.
    private void bars() {
        c.due("22: there is a LAYING", quilt("gr1c2;sh1;sh2").bars(), NONE);
        c.due("22: HOUSES", quilt("gr1c2;ls1;sh1d1;sh1d2").bars(), 1);
        c.due("22: WEIGHTS", quilt("gr2c1;lh0w3;sw0;sw9").bars(), 4);
        c.due("22: REDS", quilt("gr1c2;lh0r1;sk1;sk2").bars(), 8);
        c.due("22: EDGES", quilt("gr1c2;lh0e1;se0100;se0200").bars(), 16);
        c.due("22: too few SQUARES", quilt("gr1c2;s").bars(), 0);
        QuiltLaw x = quilt("gr1c2;lr1s1;sh1k1d3;sh1d1;sh2k2d2;sh3d4");
        x.lay(0, 0);
        c.due("22: SQUARES that stay, each of three alone", x.bars(), 1 | 2 | 8);
        x.lay(1, 1);
        c.due("22: HOUSES", x.bars(), 1);
        x.change(3, 0);
        x.take(1);
        c.due("22: there is a LAYING then", x.bars(), NONE);
        QuiltLaw y = quilt("gr1c2;ls2;sh1d1;sh1d2");
        y.lay(0, 0);
        c.due("22: none alone", y.bars(), 0);
        QuiltLaw z = quilt("gr2c1;lh0s2;sd1;sd2");
        z.lay(0, 0);
        c.due("22: SHADES", z.bars(), 2);
        c.due("22: the LAW stays", z.law(1), 2);
    }

    // Promise 23.
    private void late() {
        QuiltLaw x = quilt("gr1c2;lh0;s;s;s");
        lateIs(x, 2, 0, 0, 20);
        lateIs(x, 2, 1, 0, 2);
        x.lay(0, 0);
        x.lay(1, 1);
        lateIs(x, 2, 0, 1, 21);
        lateIs(x, 1, 0, 2, 10);
        lateIs(x, 0, 0, 0, 1);
        lateIs(x, 0, 1, 2, 10);
        c.due("23: no such what", x.late(0, 0, 2), NONE);
        c.due("23: no such what", x.late(0, 0, -1), NONE);
        c.due("23: no such SQUARE", x.late(3, 0, 0), NONE);
        c.due("23: no such SQUARE", x.late(-1, 0, 0), NONE);
        c.due("23: no such CELL", x.late(0, 2, 0), NONE);
        c.due("23: no such CELL", x.late(0, -1, 0), NONE);
        x.change(0, 1);
        lateIs(x, 0, 0, NONE, NONE);
        QuiltLaw y = quilt("sh1;sh2;sh1;sh2;sh3");
        y.lay(0, 4);
        y.lay(3, 4);
        y.lay(3, 1);
        // With 0 in CELL 1: 4 may stay in CELL 0 and 1 in CELL 3, 2 between them in CELL 2.
        lateIs(y, 0, 1, 0, 4021);
        lateIs(y, 3, 0, 1, 3021);
    }

    private void lateIs(QuiltLaw x, int square, int cell, int many, int laying) {
        c.due("23: how many for " + square + " in " + cell, x.late(square, cell, 0), many);
        c.due("23: the LAYING for " + square + " in " + cell, x.late(square, cell, 1), laying);
    }

    // Promise 24.
    private void twist() {
        QuiltLaw x = quilt("gr1c3;se0100;se0001;se0010");
        twistIs(x, 0, 0);
        layAll(x, 0, 1, 2);
        twistIs(x, 0, 0);
        x.turn(1, 2);
        twistIs(x, 1, 0);
        x.turn(2, 3);
        // 0010 TURNED so has 1 below no more, but right: its left stays 0.
        twistIs(x, 1, 3);
        x.change(4, 1);
        twistIs(x, 1, 3);
        c.due("24: no such what", x.twist(2), NONE);
        c.due("24: no such what", x.twist(-1), NONE);
        QuiltLaw y = quilt("gr1c2;se1111;se2222");
        twistIs(y, 0, 0);
        layAll(y, 0, 1);
        twistIs(y, NONE, NONE);
        QuiltLaw z = quilt("gr1c3;se0100;se0200;se0300");
        layAll(z, 0, NONE, 1);
        twistIs(z, 0, 0);
        z.turn(1, 3);
        z.turn(2, 2);
        twistIs(z, 0, 3);
        QuiltLaw v = quilt("gr2c1;se1222;se3343");
        layAll(v, 0, 1);
        twistIs(v, NONE, NONE);
        QuiltLaw w = quilt("gr2c1;se1232;se3343");
        layAll(w, 0, 1);
        twistIs(w, 0, 0);
        w.turn(1, 2);
        twistIs(w, 1, 0);
        w.turn(1, 3);
        twistIs(w, 0, 3);
        w.turn(0, 1);
        twistIs(w, 1, 3);
    }

    /** Each mark that touches another is on no third SQUARE: there is one way alone. */
    private void twistOfEight() {
        QuiltLaw x = quilt("gr3c3;se0050;se1160;se1171;se5285;se6392;se7333;se8444;se9994");
        layAll(x, 0, 1, 2, 3, 4, 5, 6, 7);
        twistIs(x, 0, 0);
        for (int square = 7; square >= 0; square--) {
            x.turn(square, 1 + square % 3);
            twistIs(x, 8 - square, 0);
        }
        c.due("24: eight of eight", x.twist(0), 8);
        x.take(7);
        twistIs(x, 7, 0);
        x.lay(8, 7);
        // Above 7 now is 5, left of it is nothing: they share no mark.
        twistIs(x, NONE, NONE);
        x.take(8);
        x.take(6);
        x.lay(8, 6);
        x.take(5);
        // 6 lies alone; 2 has nothing below it now, and TURNED by 3 it has a 1 to its left, too: both stay.
        twistIs(x, 4, 3 * 4096 + 1);
    }

    private void twistIs(QuiltLaw x, int many, int turns) {
        c.due("24: how many", x.twist(0), many);
        c.due("24: TURNS", x.twist(1), turns);
    }

    // Promise 25.
    private void patch() {
        QuiltLaw x = quilt("gr1c3;sh1l2;sh2l9;sh3l9;sh1l5");
        patchIs(x, 1, 15, 1);
        x.lay(0, 0);
        patchIs(x, 1, 6, 1);
        patchIs(x, 0, HIDDEN, HIDDEN);
        patchIs(x, 3, HIDDEN, HIDDEN);
        patchIs(x, -1, HIDDEN, HIDDEN);
        c.due("25: no such what", x.patch(1, 2), HIDDEN);
        c.due("25: no such what", x.patch(1, -1), HIDDEN);
        Checks.take(x, 1, "y:h*c");
        x.liking(0);
        patchIs(x, 1, 6, 2);
        x.lay(1, 3);
        patchIs(x, 2, 6, 2);
        c.due("25: is no ACT", x.count(7), 2);
        c.due("25: nothing is laid", x.count(5), 2);
        QuiltLaw y = quilt("gr1c2;s");
        y.lay(0, 0);
        patchIs(y, 1, 0, NONE);
        QuiltLaw z = quilt("gr1c3;sh1;sh2;sh1");
        z.lay(2, 0);
        patchIs(z, 1, 2, 1);
        QuiltLaw w = quilt("gr2c1;lh0w2;sw9;sw5;sw7");
        w.lay(1, 0);
        patchIs(w, 0, 4, 2);
        QuiltLaw v = quilt("gr1c3;sh1d9;sh2;sh1");
        v.change(1, 1);
        v.lay(0, 1);
        v.lay(2, 0);
        patchIs(v, 1, 0, NONE);
        v.take(0);
        patchIs(v, 1, 0, NONE);
        v.change(1, 0);
        patchIs(v, 1, 2, 1);
        QuiltLaw u = quilt("sh1;sh1;sh1");
        u.lay(1, 0);
        u.lay(3, 1);
        c.due("25: broken already", u.broken(3), 1);
        patchIs(u, 2, 4, 2);
        patchIs(u, 0, 0, NONE);
    }

    private void patchIs(QuiltLaw x, int cell, int bits, int one) {
        c.due("25: which for " + cell, x.patch(cell, 0), bits);
        c.due("25: the one for " + cell, x.patch(cell, 1), one);
    }

    // Promises 26, 27 and 28.
    private void bids() {
        QuiltLaw x = quilt("s;s;s");
        wonIs(x, 0, 129);
        pricesAre(x, 0, 0, 0, NONE);
        c.yes("26: a BID", x.bid(0, 3, 5));
        wonIs(x, 5, 1290);
        pricesAre(x, 0, 0, NONE, 0);
        c.yes("26: a BID", x.bid(1, 3, 4));
        wonIs(x, 5, 1290);
        pricesAre(x, 0, 0, NONE, 4);
        c.no("26: below", x.bid(0, 0, -1));
        c.no("26: above", x.bid(0, 0, 100));
        c.no("26: no such SQUARE", x.bid(3, 0, 1));
        c.no("26: no such SQUARE", x.bid(-1, 0, 1));
        c.no("26: no such CORNER", x.bid(0, 4, 1));
        c.no("26: no such CORNER", x.bid(0, -1, 1));
        wonIs(x, 5, 1290);
        c.yes("26: the highest", x.bid(0, 0, 99));
        wonIs(x, 103, 291);
        c.yes("26: taken back", x.bid(0, 0, 0));
        wonIs(x, 5, 1290);
        c.due("27: no such what", x.won(2), NONE);
        c.due("27: no such what", x.won(-1), NONE);
        c.due("28: no such CORNER", x.price(-1), NONE);
        c.due("28: no such CORNER", x.price(4), NONE);
        x.lay(0, 0);
        x.undo();
        x.image();
        x.back();
        wonIs(x, 5, 1290);
        QuiltLaw y = quilt("gr1c3;s;s;s;s");
        y.bid(0, 0, 10);
        y.bid(0, 1, 9);
        y.bid(1, 0, 8);
        wonIs(y, 17, 10);
        pricesAre(y, 1, 0);
        c.due("28: no such CORNER", y.price(2), NONE);
        y.bid(3, 1, 9);
        wonIs(y, 19, 3);
        pricesAre(y, 8, 7);
        QuiltLaw z = quilt("gr1c1;s;s");
        wonIs(z, 0, 0);
        z.bid(1, 0, 1);
        wonIs(z, 1, 1);
        pricesAre(z, 0);
        c.no("26: one CORNER alone", z.bid(0, 1, 1));
    }

    private void wonIs(QuiltLaw x, int much, int who) {
        c.due("27: how much", x.won(0), much);
        c.due("27: who", x.won(1), who);
    }

    private void pricesAre(QuiltLaw x, int... prices) {
        for (int corner = 0; corner < prices.length; corner++) {
            c.due("28: price(" + corner + ")", x.price(corner), prices[corner]);
        }
    }

    private void liesAre(String what, QuiltLaw x, int... squares) {
        for (int cell = 0; cell < squares.length; cell++) {
            c.due(what + ": cell(" + cell + ")", x.cell(cell), squares[cell]);
        }
    }

    // Promise 29.
    private void lots() {
        long[] seeds = {0, 1, 9, -1, 1234567890123L, Long.MIN_VALUE};
        int[][] ofSix = {{5, 4, 1, 2}, {2, 4, 0, 1}, {5, 1, 0, 4}, {4, 3, 1, 5}, {3, 1, 2, 5}, {3, 4, 1, 5}};
        int[][] ofThree = {{2, 0, 1, NONE}, {2, 1, 0, NONE}, {2, 1, 0, NONE}, {1, 2, 0, NONE}, {0, 1, 2, NONE}, {0, 1, 2, NONE}};
        int[][] oneLies = {{4, 2, 0, 3}, {3, 2, 0, 1}, {4, 2, 0, 1}, {0, 2, 4, 3}, {4, 2, 0, 3}, {4, 2, 1, 3}};
        for (int i = 0; i < seeds.length; i++) {
            QuiltLaw six = quilt("s;s;s;s;s;s");
            c.due("29: one ACT", six.lot(seeds[i]), 1);
            liesAre("29: of six", six, ofSix[i]);
            c.due("29: no CELL is empty", six.lot(seeds[i]), NONE);
            QuiltLaw three = quilt("s;s;s");
            c.due("29: one ACT", three.lot(seeds[i]), 1);
            liesAre("29: of three", three, ofThree[i]);
            c.due("29: all SQUARES lie", three.lot(seeds[i]), NONE);
            QuiltLaw five = quilt("s;s;s;s;s");
            five.lay(1, 2);
            c.due("29: one ACT", five.lot(seeds[i]), 2);
            liesAre("29: one lies", five, oneLies[i]);
            c.due("29: undone in one", five.undo(), 1);
            liesAre("29: undone in one", five, NONE, 2, NONE, NONE);
            c.due("29: refused is no ACT", three.count(7), 1);
        }
    }

    // Promise 30.
    private void ones() {
        long[] seeds = {0, 1, 9, -1, 1234567890123L, Long.MIN_VALUE};
        int[] ofSix = {5, 2, 5, 4, 3, 3};
        int[] ofTwenty = {7, 14, 3, 8, 19, 11};
        int[] six = {1, 2, 10, 12, 20, 21};
        QuiltLaw x = quilt("gr1c2;lh0;s;s;s");
        QuiltLaw y = quilt("gr1c2;lh0;s;s;s;s;s");
        for (int i = 0; i < seeds.length; i++) {
            c.due("30: of six", x.one(seeds[i]), six[ofSix[i]]);
            c.due("30: of twenty", y.one(seeds[i]), y.layings(ofTwenty[i]));
        }
        c.due("30: nothing is laid", x.count(5), 0);
        x.lay(0, 1);
        c.due("30: of two", x.one(0), x.layings(1));
        x.change(0, 1);
        c.due("30: none", x.one(1), NONE);
    }

    // Promise 31.
    private void uses() {
        QuiltLaw x = quilt("gr1c2;lh0;s;s;s");
        usesAre(x, 0, 4, 2, 2);
        usesAre(x, 2, 4, 2, 2);
        c.due("31: no such SQUARE", x.use(3, 0), NONE);
        c.due("31: no such SQUARE", x.use(3, NONE), NONE);
        c.due("31: no such SQUARE", x.use(-1, NONE), NONE);
        c.due("31: no such CELL", x.use(0, 2), NONE);
        c.due("31: no such CELL", x.use(0, -2), NONE);
        x.lay(0, 1);
        usesAre(x, 0, 1, 0, 1);
        usesAre(x, 1, 2, 2, 0);
        x.change(0, 1);
        usesAre(x, 1, 0, 0, 0);
    }

    private void usesAre(QuiltLaw x, int square, int all, int first, int second) {
        c.due("31: in how many", x.use(square, NONE), all);
        c.due("31: in CELL 0", x.use(square, 0), first);
        c.due("31: in CELL 1", x.use(square, 1), second);
    }

    // Promise 32.
    private void eases() {
        QuiltLaw x = quilt("gr2c1;lh0w0;sw0;sw4;sw6");
        c.due("32: of all pairs", x.ease(), 2);
        x.lay(0, 0);
        c.due("32: one stays", x.ease(), 4);
        x.lay(1, 2);
        c.due("32: all stay", x.ease(), 6);
        c.due("32: the LAW stays", x.law(2), 0);
        c.due("32: nine", quilt("gr2c1;lh0;sw0;sw9").ease(), 9);
        c.due("32: eight", quilt("gr2c1;lh0;sw0;sw8").ease(), 8);
        c.due("32: alike", quilt("gr2c1;lh0;sw3;sw3").ease(), 0);
        c.due("32: one ROW", quilt("gr1c2;lh0;sw0;sw9").ease(), 0);
        c.due("32: none", quilt("gr2c1;sw0;sw9").ease(), NONE);
        c.due("32: too few SQUARES", quilt("gr2c1;s").ease(), NONE);
        QuiltLaw y = quilt("gr2c3;lh0;sw9;sw9;sw9;sw0;sw0;sw0");
        layAll(y, 0, 1, 2, 3, 4, 5);
        c.due("32: 27 apart: not asked", y.ease(), 9);
    }

    // Promise 33.
    private void mends() {
        QuiltLaw x = quilt("gr1c2;s;sh1;s");
        mendIs(x, 0, 1);
        x.lay(1, 2);
        mendIs(x, 0, 12);
        x.lay(0, 0);
        mendIs(x, 1, 1);
        x.change(0, 0);
        mendIs(x, 0, 2);
        x.change(2, 0);
        mendIs(x, 0, 2);
        c.due("33: no such what", x.mend(2), NONE);
        c.due("33: no such what", x.mend(-1), NONE);
        mendIs(quilt("gr1c2;s;s"), NONE, NONE);
        QuiltLaw y = quilt("gr1c3;lh0s1;sd1;sd2;sd3;sd4");
        layAll(y, 0, 1, 2);
        mendIs(y, 2, 210);
    }

    private void mendIs(QuiltLaw x, int many, int laying) {
        c.due("33: how many", x.mend(0), many);
        c.due("33: the LAYING", x.mend(1), laying);
    }

    // Promise 34.
    private void seams() {
        QuiltLaw x = quilt("se1234;se5264;se3871;se6998");
        c.due("34: nothing lies", x.seams(), 0);
        layAll(x, 0, 1, 2, 3);
        c.due("34: three of four", x.seams(), 3);
        x.turn(1, 2);
        c.due("34: TURNED", x.seams(), 3);
        x.take(3);
        c.due("34: taken", x.seams(), 2);
        x.take(0);
        c.due("34: not beside one another", x.seams(), 0);
        QuiltLaw y = quilt("gr2c3;lh0e1;s;s;s;s;s;s");
        layAll(y, 0, 1, 2, 3, 4, 5);
        c.due("34: seven pairs", y.seams(), 7);
    }

    // Promise 35.
    private void darks() {
        QuiltLaw x = quilt("sd1;sd5;sd5;sd2;sd6");
        darkIs(x, NONE, NONE);
        layAll(x, 0, 1, 2, 3);
        darkIs(x, 8, 2);
        x.take(2);
        darkIs(x, 8, 1);
        x.lay(2, 4);
        darkIs(x, 9, 1);
        x.take(1);
        darkIs(x, 9, 1);
        x.take(2);
        darkIs(x, NONE, NONE);
        x.lay(1, 1);
        x.take(0);
        darkIs(x, NONE, NONE);
        x.lay(0, 0);
        x.take(3);
        darkIs(x, NONE, NONE);
        c.due("35: no such what", x.dark(2), NONE);
        c.due("35: no such what", x.dark(-1), NONE);
        QuiltLaw y = quilt("gr1c1;sd0");
        darkIs(y, NONE, NONE);
        y.lay(0, 0);
        darkIs(y, 0, 1);
        QuiltLaw z = quilt("gr3c3;sd0;sd0;sd0;sd0;sd0;sd0;sd0;sd0");
        layAll(z, 0, 1, 2, 3, NONE, 4, 5, 6, 7);
        darkIs(z, 0, 2);
        z.take(2);
        darkIs(z, 0, 1);
        z.lay(4, 2);
        darkIs(z, 0, 5);
    }

    private void darkIs(QuiltLaw x, int much, int ways) {
        c.due("35: how much", x.dark(0), much);
        c.due("35: ways", x.dark(1), ways);
    }

    // Promise 36.
    private void hoards() {
        QuiltLaw x = quilt("gr1c2;sh1w3;sh1w4;sh2w9;sh0w2;sh9w7");
        x.lay(0, 1);
        int[] lie = {0, 4, 0, 0, 0, 0, 0, 0, 0, 0};
        int[] left = {2, 3, 9, 0, 0, 0, 0, 0, 0, 7};
        for (int house = 0; house <= 9; house++) {
            c.due("36: lie", x.hoard(house, 0), lie[house]);
            c.due("36: do not lie", x.hoard(house, 1), left[house]);
            c.due("36: no such what", x.hoard(house, 2), NONE);
            c.due("36: no such what", x.hoard(house, -1), NONE);
        }
        c.due("36: no such HOUSE", x.hoard(10, 0), NONE);
        c.due("36: no such HOUSE", x.hoard(-1, 1), NONE);
    }

    // Promises 37 and 38.
    private void images() {
        QuiltLaw x = quilt("gr1c3;s;s;s;s");
        c.due("38: no IMAGE", x.back(), NONE);
        x.lay(0, 3);
        x.lay(2, 1);
        x.turn(3, 2);
        c.due("37: how many lie", x.image(), 2);
        c.due("37: ACTS stay", x.count(7), 3);
        x.take(0);
        x.lay(1, 0);
        x.turn(3, 1);
        x.turn(1, 3);
        x.change(0, 0);
        x.bid(0, 0, 5);
        x.lay(0, 2);
        c.due("38: how many lie", x.back(), 2);
        liesAre("38: as they were", x, 3, NONE, 1);
        c.due("38: TURNED as it was", Checks.square(x, 3, 6), 2);
        c.due("38: TURNED as it was", Checks.square(x, 1, 6), 0);
        c.due("38: no ACTS", x.count(7), 0);
        c.due("38: no ACTS", x.undo(), NONE);
        c.due("38: the LAW stays", x.law(0), 0);
        c.due("38: BIDS stay", x.won(0), 5);
        x.take(0);
        c.due("38: once more", x.back(), 2);
        x.take(2);
        x.take(0);
        c.due("37: instead of the one ahead", x.image(), 0);
        x.lay(0, 0);
        c.due("38: the latest one", x.back(), 0);
        c.due("38: nothing lies", x.cell(2), NONE);
    }

    // Promise 39.
    private void swapsOfRings() {
        QuiltLaw x = quilt("s;s;s;s;s");
        c.due("39: no IMAGE", x.swaps(), NONE);
        x.image();
        c.due("39: nothing lies", x.swaps(), 0);
        layAll(x, 0, 1, 2, 3);
        c.due("39: other CELLS are laid", x.swaps(), NONE);
        x.image();
        c.due("39: as it is", x.swaps(), 0);
        x.turn(0, 1);
        c.due("39: TURNS not asked", x.swaps(), 0);
        swapsOf(x, 1, 1, 0, 2, 3);
        swapsOf(x, 2, 1, 0, 3, 2);
        swapsOf(x, 2, 1, 2, 0, 3);
        swapsOf(x, 2, 3, 1, 0, 2);
        swapsOf(x, 3, 1, 2, 3, 0);
        swapsOf(x, 3, 3, 2, 0, 1);
        swapsOf(x, 1, 3, 1, 2, 0);
        swapsOf(x, NONE, 4, 1, 2, 3);
        swapsOf(x, NONE, 0, 1, 2, NONE);
        swapsOf(x, 0, 0, 1, 2, 3);
        QuiltLaw y = quilt("gr1c3;s;s;s");
        y.lay(0, 0);
        y.lay(2, 1);
        y.image();
        y.take(0);
        y.take(2);
        y.lay(2, 0);
        y.lay(0, 1);
        c.due("39: one exchange", y.swaps(), 1);
        y.take(0);
        y.lay(1, 1);
        c.due("39: other CELLS", y.swaps(), NONE);
        y.take(2);
        y.take(1);
        y.lay(0, 2);
        y.lay(2, 1);
        c.due("39: other SQUARES", y.swaps(), NONE);
    }

    private void swapsOf(QuiltLaw x, int want, int... squares) {
        for (int cell = 0; cell < 4; cell++) {
            x.take(cell);
        }
        layAll(x, squares);
        c.due("39: SWAPS", x.swaps(), want);
    }

    // Promise 40.
    private void counts() {
        int[][] grounds = {{1, 1, 1}, {1, 2, 2}, {1, 3, 2}, {2, 1, 2}, {3, 1, 2}, {2, 2, 4}, {2, 3, 4}, {3, 2, 4}, {3, 3, 4}};
        for (int[] ground : grounds) {
            QuiltLaw x = quilt("s;gr" + ground[0] + "c" + ground[1] + ";s;s");
            c.due("40: ROWS", x.count(0), ground[0]);
            c.due("40: COLUMNS", x.count(1), ground[1]);
            c.due("40: SQUARES", x.count(2), 3);
            c.due("40: CORNERS", x.count(8), ground[2]);
            c.due("40: the last CELL", x.lay(ground[0] * ground[1] - 1, 2), 1);
            c.due("40: no CELL behind", x.lay(ground[0] * ground[1], 1), NONE);
            c.due("40: how many lie", x.count(5), 1);
            c.due("40: ACTS", x.count(7), 1);
            c.due("40: LIKINGS", x.count(3), 0);
            Checks.take(x, 1, "y:1");
            c.due("40: LIKINGS", x.count(3), 1);
            c.due("40: which holds", x.count(6), NONE);
            x.liking(0);
            c.due("40: which holds", x.count(6), 0);
            Checks.feed(x, "abc");
            c.due("40: bytes", x.count(4), 3);
            c.due("40: others", x.count(9), HIDDEN);
            c.due("40: others", x.count(-1), HIDDEN);
        }
        c.due("40: ROWS at first", quilt("s").count(0), 2);
        c.due("40: COLUMNS at first", quilt("s").count(1), 2);
        c.due("40: only ROWS told", quilt("s;gr3").count(1), 2);
        c.due("40: only COLUMNS told", quilt("s;gc3").count(0), 2);
    }

    /** Arguments far out of bounds: all are refused, nothing changes. */
    private void wildArguments() {
        QuiltLaw x = quilt("gr2c2;sh1w3;sh2;sh3;sh4;sh5");
        Checks.take(x, 1, "y:1");
        x.lay(0, 0);
        x.image();
        for (int v : WILD) {
            c.no("3: wild", x.end(v));
            c.due("4: wild", x.fault(v), -2);
            c.due("5: wild", x.text(v), NONE);
            c.due("6: wild", Checks.square(x, v, 0), Checks.THROWN);
            c.due("6: wild", Checks.square(x, 0, v), Checks.THROWN);
            c.due("7: wild", x.law(v), NONE);
            c.no("8: wild", x.change(v, 0));
            c.no("8: wild", x.change(2, v));
            c.no("9: wild", x.liking(v));
            c.due("10: wild", x.lay(v, 1), NONE);
            c.due("10: wild", x.lay(1, v), NONE);
            c.due("11: wild", x.take(v), NONE);
            c.due("12: wild", x.turn(v, 1), NONE);
            c.due("12: wild", x.turn(0, v), NONE);
            c.due("14: wild", x.cell(v), NONE);
            c.due("15: wild", x.broken(v), NONE);
            c.due("16: wild", x.first(v), NONE);
            c.due("18: wild", x.weighs(v), NONE);
            c.due("19: wild", x.mates(v), NONE);
            c.due("20: wild", x.layings(v == 10 ? 1000 : v == 64 ? 640 : v), NONE);
            c.due("21: wild", x.best(v), HIDDEN);
            c.due("23: wild", x.late(v, 0, 0), NONE);
            c.due("23: wild", x.late(0, v, 0), NONE);
            c.due("23: wild", x.late(0, 0, v), NONE);
            c.due("24: wild", x.twist(v), NONE);
            c.due("25: wild", x.patch(v, 0), HIDDEN);
            c.due("25: wild", x.patch(1, v), HIDDEN);
            c.no("26: wild", x.bid(v, 0, 1));
            c.no("26: wild", x.bid(0, v, 1));
            c.no("26: wild", v != 10 && v != 64 && x.bid(0, 0, v));
            c.due("27: wild", x.won(v), NONE);
            c.due("28: wild", x.price(v), NONE);
            c.due("31: wild", x.use(v, NONE), NONE);
            c.due("31: wild", x.use(0, v), NONE);
            c.due("33: wild", x.mend(v), NONE);
            c.due("35: wild", x.dark(v), NONE);
            c.due("36: wild", x.hoard(v, 0), NONE);
            c.due("36: wild", x.hoard(1, v), NONE);
            c.due("40: wild", x.count(v), HIDDEN);
        }
        c.due("nothing has changed", x.count(5), 1);
        c.due("nothing has changed", x.count(7), 1);
        c.due("nothing has changed", x.count(6), NONE);
        c.due("nothing has changed", x.won(0), 0);
        c.due("nothing has changed", x.swaps(), 0);
    }
}
