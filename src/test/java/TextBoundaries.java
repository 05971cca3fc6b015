/** TEXTS: Term 1, and promises 1 to 5. */
final class TextBoundaries {
    private static final int NONE = -1;

    private final Boundaries b;

    TextBoundaries(Boundaries b) {
        this.b = b;
    }

    void all() {
        clauses();
        items();
        bounds();
        squaresItems();
        likings();
        sums();
        nested();
        numbers();
        worths();
        blanks();
        faults();
        newObject();
        feed();
        end();
        fault();
        text();
        textRefused();
    }

    private static void quiltFault(Checks c, String text, int at) {
        c.due("fault(0) of '" + text + "'", Checks.fault(0, text), at);
        c.due("text(0) of '" + text + "'", Checks.take(new QuiltLaw(), 0, text) > 0 ? 1 : 0, at == NONE ? 1 : 0);
    }

    private static void likingFault(Checks c, String text, int at) {
        c.due("fault(1) of '" + text + "'", Checks.fault(1, text), at);
        c.due("text(1) of '" + text + "'", Checks.take(new QuiltLaw(), 1, text), at == NONE ? 0 : NONE);
    }

    /** What SQUARE 1 in CELL 5 (ROW 1, COLUMN 2; HOUSE 3, SHADE 4, WEIGHT 6, COLOUR 2, LIKED 8) is worth. */
    private static void worth(Checks c, String sum, int want) {
        QuiltLaw x = Checks.quilt("gc3;s;sh3d4w6k2l8");
        c.due("text(1) of y:" + sum, Checks.take(x, 1, "y:" + sum), 0);
        x.liking(0);
        x.lay(5, 1);
        c.due("WORTH of y:" + sum, x.liked(), want);
    }

    private void clauses() {
        b.term(1, "A QUILT is a TEXT: CLAUSES with ; between:", c -> {
            quiltFault(c, "s;s", NONE);
            quiltFault(c, "s;s;s", NONE);
            quiltFault(c, "ss", 1);
            quiltFault(c, "s s", 2);
            quiltFault(c, "s,s", 1);
            quiltFault(c, ";s", 0);
            quiltFault(c, "s;;s", 2);
            quiltFault(c, "s;", 2);
        });
        b.term(1, "g (the GROUND; one at most)", c -> {
            quiltFault(c, "s", NONE);
            quiltFault(c, "g;s", NONE);
            quiltFault(c, "g;s;g", 4);
            quiltFault(c, "gr1;gr1;s", 4);
        });
        b.term(1, "s (a SQUARE; 1 .. 8)", c -> {
            quiltFault(c, "g;l", 3);
            quiltFault(c, "s;s;s;s;s;s;s;s", NONE);
            quiltFault(c, "s;s;s;s;s;s;s;s;s", 16);
            c.due("one", Checks.take(new QuiltLaw(), 0, "s"), 1);
            c.due("seven", Checks.take(new QuiltLaw(), 0, "s;s;s;s;s;s;s"), 7);
            c.due("eight", Checks.take(new QuiltLaw(), 0, "s;s;s;s;s;s;s;s"), 8);
            c.due("eight, ground, LAW", Checks.take(new QuiltLaw(), 0, "s;s;s;g;s;s;l;s;s;s"), 8);
        });
        b.term(1, "l (the LAW; one at most)", c -> {
            quiltFault(c, "l;s", NONE);
            quiltFault(c, "l;s;l", 4);
            quiltFault(c, "lh1;lh1;s", 4);
        });
        b.term(1, ", in any order,", c -> {
            String[] orders = {"gr1c2;sh3;lw4", "gr1c2;lw4;sh3", "sh3;gr1c2;lw4", "sh3;lw4;gr1c2", "lw4;gr1c2;sh3", "lw4;sh3;gr1c2"};
            for (String order : orders) {
                QuiltLaw x = Checks.quilt(order);
                c.due("ROWS of " + order, x.count(0), 1);
                c.due("HOUSE of " + order, Checks.square(x, 0, 0), 3);
                c.due("WEIGHTS of " + order, x.law(2), 4);
            }
        });
    }

    private void items() {
        b.term(1, "then ITEMS, none or more:", c -> {
            quiltFault(c, "g;s;l", NONE);
            quiltFault(c, "gr1;sh1;lh1", NONE);
            quiltFault(c, "gc3r1;se1234l9k2w9d9h9;le1r1w9s2h1", NONE);
            quiltFault(c, "gr1c3;sh0d0w0k0l0e0000;lh0s0w0r0e0", NONE);
        });
        b.term(1, "a letter, each once at most in a CLAUSE,", c -> {
            eachOnce(c, "", "g", new String[] {"r1", "c2"});
            eachOnce(c, "", "s", new String[] {"h1", "d2", "w3", "k1", "l4", "e1234"});
            eachOnce(c, "s;", "l", new String[] {"h1", "s2", "w3", "r1", "e0"});
            quiltFault(c, "sh1;sh1;lh1", NONE);
            quiltFault(c, "se1111;se1111;le1", NONE);
        });
        b.term(1, "and a digit, or digits as told:", c -> {
            for (String letter : new String[] {"gr", "gc", "sh", "sd", "sw", "sk", "sl", "se", "lh", "ls", "lw", "lr", "le"}) {
                quiltFault(c, letter, 2);
                quiltFault(c, letter + ";s", 2);
                quiltFault(c, letter + "h1", 2);
            }
            quiltFault(c, "gr11;s", 3);
            quiltFault(c, "sh11", 3);
            quiltFault(c, "lh11;s", 3);
            quiltFault(c, "s1", 1);
        });
    }

    /** Each of the ITEMS once more behind itself, and behind each other one. */
    private static void eachOnce(Checks c, String ahead, String clause, String[] items) {
        for (String one : items) {
            quiltFault(c, ahead + clause + one + one, (ahead + clause + one).length());
            for (String other : items) {
                if (!one.equals(other)) {
                    quiltFault(c, ahead + clause + one + other + one, (ahead + clause + one + other).length());
                }
            }
        }
    }

    /** What a digit behind a letter is taken for, from the lowest to the highest; the bytes beside these are FAULTS. */
    private static void digits(Checks c, String ahead, int lowest, int highest, String behind, java.util.function.ToLongFunction<QuiltLaw> told) {
        for (int v = lowest; v <= highest; v++) {
            c.due(ahead + v, told.applyAsLong(Checks.quilt(ahead + v + behind)), v);
        }
        quiltFault(c, ahead + (char) ('0' + lowest - 1) + behind, ahead.length());
        quiltFault(c, ahead + (char) ('0' + highest + 1) + behind, ahead.length());
        quiltFault(c, ahead + (char) ('0' + lowest + 128) + behind, ahead.length());
    }

    private void bounds() {
        b.term(1, "of g: r ROWS (1 .. 3; 2 without), c COLUMNS (1 .. 3; 2);", c -> {
            digits(c, "gr", 1, 3, ";s", x -> x.count(0));
            digits(c, "gc", 1, 3, ";s", x -> x.count(1));
            c.due("ROWS without a ground", Checks.quilt("s").count(0), 2);
            c.due("COLUMNS without a ground", Checks.quilt("s").count(1), 2);
            c.due("ROWS without r", Checks.quilt("gc3;s").count(0), 2);
            c.due("COLUMNS without c", Checks.quilt("gr3;s").count(1), 2);
            quiltFault(c, "gh1;s", 1);
        });
        b.term(1, "of l: h HOUSES (0, 1; 1), s SHADES (0 .. 2; 0), w WEIGHTS (0 .. 9; 9), r REDS (0, 1; 0), e EDGES (0, 1; 0).", c -> {
            int[] highest = {1, 2, 9, 1, 1};
            int[] without = {1, 0, 9, 0, 0};
            for (int law = 0; law < 5; law++) {
                int which = law;
                digits(c, "l" + "hswre".charAt(law), 0, highest[law], ";s", x -> x.law(which));
                c.due("LAW " + law + " without an l", Checks.quilt("s").law(law), without[law]);
                c.due("LAW " + law + " without its letter", Checks.quilt("l;s").law(law), without[law]);
            }
            quiltFault(c, "lk1;s", 1);
            quiltFault(c, "ld1;s", 1);
        });
    }

    private void squaresItems() {
        squareItem("of s: h HOUSE (0 .. 9; 0),", 'h', 0, 9, 0);
        squareItem("d SHADE (0 .. 9; 5),", 'd', 1, 9, 5);
        squareItem("w WEIGHT (0 .. 9; 1),", 'w', 2, 9, 1);
        squareItem("k COLOUR (0 .. 2; 0: plain, 1 red, 2 a widow's),", 'k', 3, 2, 0);
        squareItem("l LIKED (0 .. 9; 1),", 'l', 4, 9, 1);
        b.term(1, "k COLOUR (0 .. 2; 0: plain, 1 red, 2 a widow's),", c -> {
            QuiltLaw x = Checks.quilt("gr1c2;lh0r1;sk0;sk1;sk2");
            c.due("plain", x.mates(0), 2 | 4);
            c.due("red", x.mates(1), 1);
            c.due("a widow's", x.mates(2), 1);
        });
        b.term(1, "e EDGES (four digits: above, right, below, left; 0000);", c -> {
            c.due("without", Checks.square(Checks.quilt("s"), 0, 5), 0);
            c.due("the least", Checks.square(Checks.quilt("se0000"), 0, 5), 0);
            c.due("the greatest", Checks.square(Checks.quilt("se9999"), 0, 5), 9999);
            c.due("in that order", Checks.square(Checks.quilt("se1234"), 0, 5), 1234);
            c.due("0 ahead", Checks.square(Checks.quilt("se0070"), 0, 5), 70);
            for (int digits = 0; digits < 4; digits++) {
                String few = "se" + "1234".substring(0, digits);
                quiltFault(c, few, few.length());
                quiltFault(c, few + ";s", few.length());
                quiltFault(c, few + "/999", few.length());
                quiltFault(c, few + ":999", few.length());
            }
            quiltFault(c, "se12345", 6);
            QuiltLaw across = Checks.quilt("gr1c2;lh0e1;se0200;se0002");
            c.due("the right one meets the left one", across.mates(0), 2);
            QuiltLaw down = Checks.quilt("gr2c1;lh0e1;se0020;se2000");
            c.due("the one below meets the one above", down.layings(0), 1);
        });
    }

    private void squareItem(String words, char letter, int what, int highest, int without) {
        b.term(1, words, c -> {
            digits(c, "s" + letter, 0, highest, "", x -> Checks.square(x, 0, what));
            c.due("without", Checks.square(Checks.quilt("s"), 0, what), without);
            c.due("another SQUARE's does not count", Checks.square(Checks.quilt("s" + letter + "2;s"), 1, what), without);
        });
    }

    private void likings() {
        b.term(1, "LIKINGS (4 at most) are TEXTS:", c -> {
            QuiltLaw x = new QuiltLaw();
            for (int n = 0; n < 4; n++) {
                c.due("a LIKING", Checks.take(x, 1, "y:1"), n);
            }
            c.due("a fifth one", Checks.take(x, 1, "y:1"), NONE);
            c.due("four", x.count(3), 4);
        });
        b.term(1, "CLAUSES with ; between, one at least:", c -> {
            likingFault(c, "y:1", NONE);
            likingFault(c, "y:1;y:2", NONE);
            likingFault(c, "y:1;y:2;y:3;y:4;y:5;y:6;y:7;y:8;y:9;y:10;y:11;y:12", NONE);
            likingFault(c, "", 0);
            likingFault(c, ";", 0);
            likingFault(c, "y:1;", 4);
            likingFault(c, "y:1;;y:2", 4);
            likingFault(c, "y:1y:2", 3);
            likingFault(c, "y:1,y:2", 3);
            likingFault(c, "y:1;s", 4);
        });
        b.term(1, "y, : , perhaps CONDITION ?, then SUM.", c -> {
            likingFault(c, "y", 1);
            likingFault(c, "y1", 1);
            likingFault(c, ":1", 0);
            likingFault(c, "y:", 2);
            likingFault(c, "y:?1", 2);
            likingFault(c, "y:r=1?2", NONE);
            likingFault(c, "y:r=1?", 6);
            likingFault(c, "y:r=1", 5);
            likingFault(c, "y:r=1;y:2", 5);
            likingFault(c, "y:1?2", 3);
            likingFault(c, "y:r=1?2?3", 7);
            likingFault(c, "y:r=1?c=1?3", 7);
        });
        b.term(1, "CONDITION: TRUTHS with | between;", c -> {
            likingFault(c, "y:r=1|c=1?2", NONE);
            likingFault(c, "y:r=1|?2", 6);
            likingFault(c, "y:|r=1?2", 2);
            likingFault(c, "y:r=1|2?2", 7);
            likingFault(c, "y:1|r=1?2", 3);
            worth(c, "r=0|c=0|h=0?5;y:6", 6);
            worth(c, "r=1|c=0|h=0?5;y:6", 5);
            worth(c, "r=0|c=2|h=0?5;y:6", 5);
            worth(c, "r=0|c=0|h=3?5;y:6", 5);
        });
        b.term(1, "TRUTH: UNITS with & between;", c -> {
            likingFault(c, "y:r=1&c=1?2", NONE);
            likingFault(c, "y:r=1&?2", 6);
            likingFault(c, "y:&r=1?2", 2);
            likingFault(c, "y:1&r=1?2", 3);
            worth(c, "r=1&c=2&h=3?5;y:6", 5);
            worth(c, "r=0&c=2&h=3?5;y:6", 6);
            worth(c, "r=1&c=0&h=3?5;y:6", 6);
            worth(c, "r=1&c=2&h=0?5;y:6", 6);
            worth(c, "r=1|c=0&h=0?5;y:6", 5);
            worth(c, "r=0&c=0|h=3?5;y:6", 5);
        });
        b.term(1, "UNIT: ! UNIT, ( CONDITION ), or SUM, one of = < >, SUM.", c -> {
            worth(c, "!r=0?5;y:6", 5);
            worth(c, "!!r=0?5;y:6", 6);
            worth(c, "!r=1|c=2?5;y:6", 5);
            worth(c, "!r=0&c=0?5;y:6", 6);
            worth(c, "(r=1|c=2)&h=0?5;y:6", 6);
            worth(c, "(r=1|c=0)&h=3?5;y:6", 5);
            worth(c, "((r=1))?5;y:6", 5);
            worth(c, "((r=0))?5;y:6", 6);
            worth(c, "!(r=1|c=0)?5;y:6", 6);
            worth(c, "(!r=0)?5;y:6", 5);
            worth(c, "!(r=0|c=0)?5;y:6", 5);
            worth(c, "4<4?1;y:4>4?2;y:4=4?3", 3);
            worth(c, "4<5?1;y:2", 1);
            worth(c, "5<4?1;y:2", 2);
            worth(c, "5>4?1;y:2", 1);
            worth(c, "4>5?1;y:2", 2);
            worth(c, "4=5?1;y:2", 2);
            likingFault(c, "y:!?1", 3);
            likingFault(c, "y:()?1", 3);
            likingFault(c, "y:(r=1?1", 6);
            likingFault(c, "y:(r=1)", 7);
            likingFault(c, "y:r==1?1", 4);
            likingFault(c, "y:r<=1?1", 4);
            likingFault(c, "y:r=1=1?1", 5);
            likingFault(c, "y:r=(c=1)?1", 4);
            likingFault(c, "y:r=!c=1?1", 4);
        });
    }

    private void sums() {
        b.term(1, "SUM: TERMS with + or - between;", c -> {
            worth(c, "1+2-4+8", 7);
            worth(c, "10-3-2", 5);
            worth(c, "10-[3-2]", 9);
            likingFault(c, "y:-1", 2);
            likingFault(c, "y:+1", 2);
            likingFault(c, "y:1+", 4);
            likingFault(c, "y:1--1", 4);
        });
        b.term(1, "TERM: ATOMS with * or / between;", c -> {
            worth(c, "2+3*4", 14);
            worth(c, "2*3+4", 10);
            worth(c, "7/2*2", 6);
            worth(c, "2*7/2", 7);
            worth(c, "24/4/3", 2);
            likingFault(c, "y:*1", 2);
            likingFault(c, "y:/1", 2);
            likingFault(c, "y:1*", 4);
            likingFault(c, "y:1/+1", 4);
        });
        b.term(1, "ATOM: a number (1 to 4 digits), a letter (r c h d w k l), [ SUM ].", c -> {
            worth(c, "0", 0);
            worth(c, "9999", 9999);
            worth(c, "0000", 0);
            worth(c, "0012", 12);
            worth(c, "[[9]+1]*2", 20);
            likingFault(c, "y:1234", NONE);
            likingFault(c, "y:12345", 6);
            likingFault(c, "y:00000", 6);
            likingFault(c, "y:1r", 3);
            likingFault(c, "y:r1", 3);
            likingFault(c, "y:rr", 3);
            likingFault(c, "y:[]", 3);
            likingFault(c, "y:[1", 4);
            likingFault(c, "y:1]", 3);
            likingFault(c, "y:[1)", 4);
            for (char sign = 1; sign < 256; sign++) {
                if ("rchdwkl0123456789".indexOf(sign) >= 0) {
                    likingFault(c, "y:" + sign, NONE);
                } else if ("[(! ".indexOf(sign) < 0) {
                    likingFault(c, "y:" + sign, 2);
                }
            }
        });
        b.term(1, "(A CLAUSE that goes on with ! or ( behind its : has a CONDITION.)", c -> {
            likingFault(c, "y:(1)", 4);
            likingFault(c, "y:(r)", 4);
            likingFault(c, "y:(1)+2", 4);
            likingFault(c, "y:(r=1)+2", 7);
            likingFault(c, "y:!1", 4);
            likingFault(c, "y:!r=1", 6);
            likingFault(c, "y:!r=1?2", NONE);
            likingFault(c, "y:(r=1)?2", NONE);
            likingFault(c, "y:[1]", NONE);
            likingFault(c, "y:[1]=1?2", NONE);
            likingFault(c, "y:[r=1]?2", 4);
            likingFault(c, "y:r=1?(c=1)?2", 6);
            likingFault(c, "y:r=1?!c=1?2", 6);
        });
    }

    private void nested() {
        b.term(1, "At most six of ( [ ! within one another.", c -> {
            for (String one : new String[] {"(", "[", "!"}) {
                String end = one.equals("(") ? ")" : one.equals("[") ? "]" : "";
                String inner = one.equals("[") ? "r" : "r=1";
                String behind = one.equals("[") ? "" : "?1";
                likingFault(c, "y:" + one.repeat(6) + inner + end.repeat(6) + behind, NONE);
                likingFault(c, "y:" + one.repeat(7) + inner + end.repeat(7) + behind, 8);
            }
            likingFault(c, "y:(!(![[r]]=1))?1", NONE);
            likingFault(c, "y:(!(![[[r]]]=1))?1", 8);
            likingFault(c, "y:!!!!!![r]=1?1", 8);
            likingFault(c, "y:!!!!!!1=[r]?1", 10);
            likingFault(c, "y:!!!!!r=[c]?1", NONE);
            likingFault(c, "y:!!!!!!r=1&!!!!!!c=1|!!!!!!h=1?[[[[[[1]]]]]]+[[[[[[2]]]]]]", NONE);
            likingFault(c, "y:r=1&!!!!!!!c=1?1", 12);
            likingFault(c, "y:r=1|!!!!!!!c=1?1", 12);
            likingFault(c, "y:r=1|c=1&!!!!!!!h=1?1", 16);
            likingFault(c, "y:r=1?[[[[[[[1]]]]]]]", 12);
            likingFault(c, "y:r=[[[[[[1]]]]]]?1", NONE);
            likingFault(c, "y:r=[[[[[[[1]]]]]]]?1", 10);
            likingFault(c, "y:(((((r=1|!c=1)))))?1", NONE);
            likingFault(c, "y:((((((r=1|!c=1))))))?1", 12);
            likingFault(c, "y:((((((r=1&(c=1)))))))?1", 12);
            likingFault(c, "y:1;y:[[[[[[[1]]]]]]]", 12);
        });
    }

    private void numbers() {
        b.term(1, "Behind each sign numbers are within -1,000,000 .. 1,000,000;", c -> {
            worth(c, "999*1000+999", 999999);
            worth(c, "999*1000+1000", 1000000);
            worth(c, "999*1000+1001", 1000000);
            worth(c, "1000*1000", 1000000);
            worth(c, "1001*1000", 1000000);
            worth(c, "1001*1000-1", 999999);
            worth(c, "1000*1000+1-1", 999999);
            worth(c, "0-1000*1000", -1000000);
            worth(c, "0-1000*1000-1", -1000000);
            worth(c, "0-1000*1000-1+1", -999999);
            worth(c, "[0-1001]*1000", -1000000);
            worth(c, "[0-1001]*1000+1", -999999);
            worth(c, "[0-999]*1000-999", -999999);
            worth(c, "9999*9999*9999*9999", 1000000);
            worth(c, "[0-9999]*9999*9999*9999", -1000000);
            worth(c, "[0-9999]*9999*[0-9999]*9999", 1000000);
            worth(c, "9999*9999/1000", 1000);
            worth(c, "9999*9999=9998*9999?1;y:2", 1);
            worth(c, "9999*9999>1000*1000?1;y:2", 2);
        });
        b.term(1, "/ cuts towards 0, by 0 gives 0.", c -> {
            worth(c, "7/2", 3);
            worth(c, "[0-7]/2", -3);
            worth(c, "7/[0-2]", -3);
            worth(c, "[0-7]/[0-2]", 3);
            worth(c, "1/2", 0);
            worth(c, "[0-1]/2", 0);
            worth(c, "5/0", 0);
            worth(c, "0/0", 0);
            worth(c, "5/[1-1]+3", 3);
            worth(c, "1000*1000/0", 0);
            worth(c, "[0-1000*1000]/1", -1000000);
            worth(c, "[0-1000*1000]/[0-1]", 1000000);
        });
    }

    private void worths() {
        b.term(1, "WORTH: the SUM of the first CLAUSE whose CONDITION holds (or has none), 0 without.", c -> {
            worth(c, "r=1?5;y:c=2?6;y:7", 5);
            worth(c, "r=0?5;y:c=2?6;y:7", 6);
            worth(c, "r=0?5;y:c=0?6;y:7", 7);
            worth(c, "r=0?5;y:c=0?6", 0);
            worth(c, "5;y:6", 5);
            worth(c, "5;y:r=1?6", 5);
            worth(c, "r=1?0;y:6", 0);
            worth(c, "0-1;y:6", -1);
        });
    }

    private void blanks() {
        b.term(1, "Blanks (32) may stand between all signs of both, not within numbers and EDGES.", c -> {
            quiltFault(c, "  g  r  1  c  2  ;  s  h  3  e  1234  ;  l  w  4  ", NONE);
            quiltFault(c, " s", NONE);
            quiltFault(c, "s ", NONE);
            quiltFault(c, "s ;s", NONE);
            quiltFault(c, "s; s", NONE);
            quiltFault(c, "s h1", NONE);
            quiltFault(c, "sh 1", NONE);
            quiltFault(c, "sh1 d1", NONE);
            quiltFault(c, "se 1234", NONE);
            quiltFault(c, "se1 234", 3);
            quiltFault(c, "se12 34", 4);
            quiltFault(c, "se123 4", 5);
            quiltFault(c, "se1234 5", 7);
            quiltFault(c, "s\th1", 1);
            quiltFault(c, "s\nh1", 1);
            quiltFault(c, "s\u00a0h1", 1);
            likingFault(c, "  y  :  !  (  r  =  1  |  c  <  2  )  &  h  >  3  ?  [  12  +  r  ]  *  3  -  4  /  5  ;  y  :  6  ", NONE);
            likingFault(c, "y:1 2", 4);
            likingFault(c, "y:12 34", 5);
            likingFault(c, "y:123 4", 6);
            likingFault(c, "y:1 +2", NONE);
            likingFault(c, "y:1\t+2", 3);
            worth(c, " 1 + 2 ", 3);
        });
    }

    private void faults() {
        b.term(1, "FAULT: the first byte at which no such TEXT can go on", c -> {
            quiltFault(c, "s;x;y", 2);
            quiltFault(c, "x", 0);
            quiltFault(c, "gr1c2;sh1d2;lw5;sk3x", 18);
            // Behind eight SQUARES, a ground and a LAW there is no CLAUSE left that could follow a ;
            quiltFault(c, "g;l;s;s;s;s;s;s;s;s;s", 19);
            quiltFault(c, "g;l;s;s;s;s;s;s;s;s;", 19);
            quiltFault(c, "g;s;s;s;s;s;s;s;s;x", 18);
            likingFault(c, "y:1x;y", 3);
            for (char sign = 1; sign < 256; sign++) {
                if ("; hdwkle".indexOf(sign) < 0) {
                    quiltFault(c, "s" + sign, 1);
                }
                if ("0123456789; +-*/=<>".indexOf(sign) < 0) {
                    likingFault(c, "y:1" + sign, 3);
                }
            }
            likingFault(c, "y:r=1?2&c=1?3", 7);
        });
        b.term(1, "(the length, if it ends too early, or without a SQUARE):", c -> {
            for (String text : new String[] {"", " ", "   ", "g", "gr", "gr2", "gr2 ", "g;", "g;l", "l", "lw", "lw2", "lw2;", "s;", "s; ", "sh", "se0", "se012"}) {
                quiltFault(c, text, text.length());
            }
            String[] early = {"", " ", "y", "y ", "y:", "y: ", "y:r=", "y:r=1", "y:r=1 ", "y:r=1?", "y:!", "y:(", "y:(r=1", "y:(r=1)",
                "y:[", "y:[1", "y:1+", "y:1*", "y:1;", "y:1; ", "y:1;y", "y:r=1&", "y:r=1|"};
            for (String text : early) {
                likingFault(c, text, text.length());
            }
            QuiltLaw x = new QuiltLaw();
            c.due("a full TAPE", Checks.feed(x, "g" + " ".repeat(159)), 160);
            c.due("its length", x.fault(0), 160);
            x.end(0);
            c.due("a full TAPE", Checks.feed(x, "y:" + "1+".repeat(79)), 160);
            c.due("its length", x.fault(1), 160);
            x.end(159);
            c.due("without the last sign it ends well", x.fault(1), NONE);
        });
        b.term(1, "a digit out of bounds,", c -> {
            quiltFault(c, "gr0;s", 2);
            quiltFault(c, "gr4;s", 2);
            quiltFault(c, "gr1c0;s", 4);
            quiltFault(c, "gr1c4;s", 4);
            quiltFault(c, "sk3", 2);
            quiltFault(c, "lh2;s", 2);
            quiltFault(c, "ls3;s", 2);
            quiltFault(c, "lr2;s", 2);
            quiltFault(c, "le2;s", 2);
        });
        b.term(1, "a fifth digit of a LIKING,", c -> {
            likingFault(c, "y:12345", 6);
            likingFault(c, "y:r=12345?1", 8);
            likingFault(c, "y:r=1?12345", 10);
            likingFault(c, "y:[12345]", 7);
            likingFault(c, "y:1234+12345", 11);
        });
        b.term(1, "a letter that was there,", c -> {
            quiltFault(c, "sh1h2", 3);
            quiltFault(c, "sh1d2h3", 5);
            quiltFault(c, "gr1c1c1;s", 5);
            quiltFault(c, "lw1h1w1;s", 5);
        });
        b.term(1, "a second g,", c -> quiltFault(c, "s;g;s;g;s", 6));
        b.term(1, "a ninth s,", c -> quiltFault(c, "sh1;s;s;s;s;s;s;s;s;l", 18));
        b.term(1, "a second l,", c -> quiltFault(c, "s;l;s;lh1", 6));
        b.term(1, "a seventh of ( [ ! are such.", c -> {
            likingFault(c, "y:!(!(!(!r=1)))?1", 8);
            likingFault(c, "y:[[[[[[[", 8);
        });
    }

    private void newObject() {
        b.promise(1, "No QUILT.", c -> {
            QuiltLaw x = new QuiltLaw();
            int[] counts = {0, 0, 0, 0, 0, 0, NONE, 0, 0};
            for (int what = 0; what < counts.length; what++) {
                c.due("count(" + what + ")", x.count(what), counts[what]);
            }
            c.due("no LAYINGS", x.layings(NONE), NONE);
            c.due("another one's QUILT is not its own", Checks.quilt("s").count(2), 1);
            c.due("another one's QUILT is not its own", x.count(2), 0);
        });
    }

    private void feed() {
        b.promise(2, "Twenty bytes more come to the TAPE", c -> {
            QuiltLaw x = new QuiltLaw();
            c.due("one call", Checks.feed(x, "sh1d2w3k2l4e5678;sh9"), 20);
            c.due("all of them", x.text(0), 2);
            int[] told = {1, 2, 3, 2, 4, 5678};
            for (int what = 0; what < told.length; what++) {
                c.due("square(0, " + what + ")", Checks.square(x, 0, what), told[what]);
            }
            c.due("the last one", Checks.square(x, 1, 0), 9);
        });
        b.promise(2, "(of each number the highest first; bytes of 0 are left out)", c -> {
            for (int k = 0; k < 20; k++) {
                int[] numbers = new int[5];
                numbers[k / 4] = 's' << 24 - 8 * (k % 4);
                QuiltLaw x = new QuiltLaw();
                c.due("byte " + k + " alone", x.feed(numbers[0], numbers[1], numbers[2], numbers[3], numbers[4]), 1);
                c.due("it is there", x.fault(0), NONE);
                numbers[k / 4] = 255 << 24 - 8 * (k % 4);
                c.due("byte " + k + " of 255", x.feed(numbers[0], numbers[1], numbers[2], numbers[3], numbers[4]), 2);
            }
            QuiltLaw x = new QuiltLaw();
            c.due("with zeros between", x.feed('s' << 16, 'h' << 24 | '7', 0, 0, 0), 3);
            c.due("in their order", x.text(0), 1);
            c.due("in their order", Checks.square(x, 0, 0), 7);
        });
        b.promise(2, ": how many it has.", c -> {
            QuiltLaw x = new QuiltLaw();
            c.due("none", x.feed(0, 0, 0, 0, 0), 0);
            c.due("one", x.feed(0, 0, 0, 0, 1), 1);
            c.due("twenty more", x.feed(-1, -1, -1, -1, -1), 21);
            c.due("nothing more", x.feed(0, 0, 0, 0, 0), 21);
            c.due("as told by count", x.count(4), 21);
        });
        b.promise(2, "NONE: more than 160.", c -> {
            QuiltLaw x = new QuiltLaw();
            for (int n = 1; n <= 8; n++) {
                c.due("twenty more", x.feed(-1, -1, -1, -1, -1), 20 * n);
            }
            c.due("nothing more is no more than 160", x.feed(0, 0, 0, 0, 0), 160);
            for (int shift = 0; shift < 32; shift += 8) {
                c.due("one more", x.feed(1 << shift, 0, 0, 0, 0), NONE);
                c.due("one more", x.feed(0, 0, 0, 0, 1 << shift), NONE);
            }
            x.end(141);
            c.due("twenty for nineteen", x.feed(-1, -1, -1, -1, -1), NONE);
            c.due("nothing of it", x.count(4), 141);
            c.due("nineteen for nineteen", x.feed(-1, -1, 0x01000101, -1, -1), 160);
            Twins.refused(c, "twenty for one", () -> nearlyFull(159), NONE, y -> y.feed(-1, -1, -1, -1, -1));
            Twins.refused(c, "one for none", () -> nearlyFull(160), NONE, y -> y.feed(0, 0, 0, 0, 1));
        });
    }

    private static QuiltLaw nearlyFull(int bytes) {
        QuiltLaw x = Twins.rich();
        x.end(0);
        Checks.feed(x, "s" + " ".repeat(bytes - 1));
        return x;
    }

    /** The FAULT of a text's first n bytes: what is gone is not read any more. */
    private static void cut(Checks c, int sort, String text, int n, int fault) {
        QuiltLaw x = new QuiltLaw();
        Checks.feed(x, text);
        x.end(n);
        c.due("fault of '" + text + "' cut to " + n, x.fault(sort), fault);
    }

    private void end() {
        b.promise(3, "The TAPE has its first n bytes alone.", c -> {
            QuiltLaw x = new QuiltLaw();
            c.yes("none of none", x.end(0));
            Checks.feed(x, "sh1;sh2;x");
            c.yes("all", x.end(9));
            c.due("all", x.fault(0), 8);
            c.yes("but the last", x.end(8));
            c.due("ends too early", x.fault(0), 8);
            c.yes("one less", x.end(7));
            c.due("a whole one", x.fault(0), NONE);
            Checks.feed(x, "d3");
            c.due("goes on behind these", x.text(0), 2);
            c.due("goes on behind these", Checks.square(x, 1, 1), 3);
            Checks.feed(x, "sh1");
            c.yes("none", x.end(0));
            c.due("none", x.count(4), 0);
            c.due("none", x.fault(0), 0);
            cut(c, 0, "sh1", 2, 2);
            cut(c, 0, "se1234", 5, 5);
            cut(c, 0, "s; s", 2, 2);
            cut(c, 0, "s;s", 1, NONE);
            cut(c, 1, "y: 1", 2, 2);
            cut(c, 1, "y:12", 3, NONE);
            QuiltLaw one = LayBoundaries.laid("s", 0);
            Checks.feed(one, "y:12");
            one.end(3);
            one.text(1);
            one.liking(0);
            c.due("the digit that is gone does not count", one.liked(), 1);
        });
        b.promise(3, "False: n.", c -> {
            // Twins.rich leaves five bytes on the TAPE.
            Twins.refused(c, "end(-1)", 0, x -> x.end(-1) ? 1 : 0);
            Twins.refused(c, "end(6)", 0, x -> x.end(6) ? 1 : 0);
            for (int v : Twins.WILD) {
                Twins.refused(c, "end(" + v + ")", 0, x -> x.end(v) ? 1 : 0);
            }
            c.no("one of none", new QuiltLaw().end(1));
            QuiltLaw cut = Twins.rich();
            cut.end(2);
            c.no("what is gone does not come back", cut.end(3));
        });
    }

    private void fault() {
        b.promise(4, "The FAULT of the TAPE as a QUILT (0),", c -> {
            QuiltLaw x = new QuiltLaw();
            Checks.feed(x, "s;y:1");
            c.due("as a QUILT", x.fault(0), 2);
            Twins.refused(c, "tells alone", NONE, y -> y.fault(0));
            QuiltLaw stays = Checks.quilt("gr1c3;sh3e1234;lw4");
            Checks.feed(stays, "gr3c1;lw5h0;sh4e9999;s;x");
            c.due("looked at alone", stays.fault(0), 23);
            c.due("ROWS stay", stays.count(0), 1);
            c.due("SQUARES stay", stays.count(2), 1);
            c.due("HOUSE stays", Checks.square(stays, 0, 0), 3);
            c.due("EDGES stay", Checks.square(stays, 0, 5), 1234);
            c.due("HOUSES stay", stays.law(0), 1);
            c.due("WEIGHTS stay", stays.law(2), 4);
        });
        b.promise(4, "a LIKING (1).", c -> {
            QuiltLaw x = new QuiltLaw();
            Checks.feed(x, "y:1;s");
            c.due("as a LIKING", x.fault(1), 4);
            c.due("as a QUILT", x.fault(0), 0);
            Twins.refused(c, "tells alone", 0, y -> y.fault(1));
            QuiltLaw stays = Checks.quilt("sd7");
            Checks.take(stays, 1, "y:d");
            stays.liking(0);
            stays.lay(0, 0);
            Checks.feed(stays, "y:99");
            c.due("looked at alone", stays.fault(1), NONE);
            c.due("LIKINGS stay", stays.count(3), 1);
            c.due("WORTH stays", stays.liked(), 7);
        });
        b.promise(4, "NONE: none.", c -> {
            QuiltLaw x = new QuiltLaw();
            Checks.feed(x, "s");
            c.due("a QUILT", x.fault(0), NONE);
            c.due("the TAPE stays", x.count(4), 1);
            x.end(0);
            Checks.feed(x, "y:1");
            c.due("a LIKING", x.fault(1), NONE);
            c.due("the TAPE stays", x.count(4), 3);
            c.due("is not taken", x.count(3), 0);
        });
        b.promise(4, "-2: no such sort.", c -> {
            Twins.refused(c, "fault(-1)", -2, x -> x.fault(-1));
            Twins.refused(c, "fault(2)", -2, x -> x.fault(2));
            for (int v : Twins.WILD) {
                c.due("fault(" + v + ")", new QuiltLaw().fault(v), -2);
                c.due("fault(" + v + ")", Twins.rich().fault(v), -2);
            }
        });
    }

    private void text() {
        b.promise(5, "The TAPE (empty then) is the QUILT", c -> {
            QuiltLaw x = new QuiltLaw();
            Checks.feed(x, "gr1c3;s");
            x.text(0);
            c.due("empty then", x.count(4), 0);
            c.due("ROWS", x.count(0), 1);
            c.due("nothing can be cut", x.end(1) ? 1 : 0, 0);
            Checks.feed(x, "y:1");
            x.text(1);
            c.due("empty then, too", x.count(4), 0);
            c.due("LAYINGS of that one", x.layings(NONE), 0);
            Checks.take(x, 0, "gr1c1;s;s");
            c.due("LAYINGS of the next", x.layings(NONE), 2);
            c.due("MEND of the next", x.mend(1), 0);
            Checks.take(x, 0, "gr1c2;lh0;s;s;s");
            c.due("LAYINGS of the one behind it", x.layings(NONE), 6);
            c.due("MEND of the one behind it", x.mend(1), 1);
            c.due("a full TAPE", Checks.feed(x, "gr1c1" + " ".repeat(152) + ";s "), 160);
            c.due("is taken", x.text(0), 1);
            c.due("CORNERS of it", x.count(8), 1);
        });
        b.promise(5, "(nothing lies;", c -> {
            QuiltLaw x = Twins.rich();
            x.end(0);
            Checks.take(x, 0, "gr2c2;s;s;s;s;s");
            c.due("how many", x.count(5), 0);
            for (int cell = 0; cell < 4; cell++) {
                c.due("CELL " + cell, x.cell(cell), NONE);
            }
            for (int square = 0; square < 5; square++) {
                c.due("not TURNED", Checks.square(x, square, 6), 0);
                c.due("in no CELL", Checks.square(x, square, 7), NONE);
            }
        });
        b.promise(5, "BIDS, ACTS, IMAGE of another one are gone;", c -> {
            QuiltLaw x = Twins.rich();
            Checks.take(x, 0, "gr2c2;s;s;s;s;s");
            c.due("BIDS", x.won(0), 0);
            c.due("ACTS", x.count(7), 0);
            c.due("ACTS", x.undo(), NONE);
            c.due("IMAGE", x.back(), NONE);
            c.due("IMAGE", x.swaps(), NONE);
        });
        b.promise(5, "LIKINGS, which holds, stay)", c -> {
            QuiltLaw x = Twins.rich();
            Checks.take(x, 0, "gr2c2;sw5");
            c.due("LIKINGS", x.count(3), 2);
            c.due("which holds", x.count(6), 1);
            x.lay(0, 0);
            c.due("y:r=1?d;y:w-9", x.liked(), -4);
            QuiltLaw none = Checks.quilt("s");
            Checks.take(none, 1, "y:7");
            Checks.take(none, 0, "sl3");
            none.lay(0, 0);
            c.due("none that holds", none.liked(), 3);
        });
        b.promise(5, ": how many SQUARES;", c -> {
            StringBuilder text = new StringBuilder();
            for (int n = 1; n <= 8; n++) {
                text.append(n > 1 ? ";s" : "s");
                c.due("SQUARES", Checks.take(new QuiltLaw(), 0, text.toString()), n);
            }
        });
        b.promise(5, "a LIKING: its number.", c -> {
            QuiltLaw x = new QuiltLaw();
            for (int n = 0; n < 4; n++) {
                c.due("from 0", Checks.take(x, 1, "y:" + n), n);
                c.due("none holds by that", x.count(6), NONE);
            }
            QuiltLaw full = Checks.quilt("s");
            full.lay(0, 0);
            c.due("a full TAPE", Checks.feed(full, "y:" + "1+".repeat(78) + "10"), 160);
            c.due("is taken", full.text(1), 0);
            full.liking(0);
            Checks.feed(full, "y:5");
            c.due("78 and 10, whatever is fed then", full.liked(), 88);
            c.due("another one", full.text(1), 1);
            c.due("the first one holds", full.liked(), 88);
        });
    }

    private void textRefused() {
        b.promise(5, "NONE: a FAULT,", c -> {
            Twins.refused(c, "sh1; as a QUILT", () -> cutTo(4), NONE, x -> x.text(0));
            Twins.refused(c, "a QUILT as a LIKING", NONE, x -> x.text(1));
            Twins.refused(c, "an empty TAPE", () -> cutTo(0), NONE, x -> x.text(0));
            Twins.refused(c, "an empty TAPE", () -> cutTo(0), NONE, x -> x.text(1));
            Twins.refusedWithoutQuilt(c, "without a QUILT", NONE, x -> x.text(1));
        });
        b.promise(5, "no such sort,", c -> {
            Twins.refused(c, "text(-1)", NONE, x -> x.text(-1));
            Twins.refused(c, "text(2)", NONE, x -> x.text(2));
            for (int v : Twins.WILD) {
                Twins.refused(c, "text(" + v + ")", NONE, x -> x.text(v));
            }
        });
        b.promise(5, "there are four LIKINGS.", c -> {
            Twins.refused(c, "a fifth one", TextBoundaries::fourLikings, NONE, x -> x.text(1));
            QuiltLaw x = fourLikings();
            c.due("it has no FAULT", x.fault(1), NONE);
            c.due("a QUILT still can be", Checks.take(x, 0, "s;s"), 2);
        });
    }

    private static QuiltLaw cutTo(int n) {
        QuiltLaw x = Twins.rich();
        x.end(n);
        return x;
    }

    private static QuiltLaw fourLikings() {
        QuiltLaw x = Twins.rich();
        Checks.take(x, 1, "y:3");
        Checks.take(x, 1, "y:4");
        Checks.feed(x, "y:5");
        return x;
    }
}
