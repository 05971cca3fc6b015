import java.util.Arrays;
import java.util.NoSuchElementException;

/**
 * A quilt of squares on a ground of cells, the laws that it keeps or breaks,
 * and what can still become of it. The words in capitals are those of the document.
 */
public final class QuiltLaw {
    public static final int NONE = -1;
    public static final int HIDDEN = -1000000;

    private static final int NO_SORT = -2;
    private static final int A_QUILT = 0;
    private static final int A_LIKING = 1;

    private static final int MOST_BYTES = 160;
    private static final int MOST_SQUARES = 8;
    private static final int MOST_ROWS = 3;
    private static final int MOST_COLUMNS = 3;
    private static final int MOST_CELLS = 9;
    private static final int MOST_LIKINGS = 4;
    private static final int MOST_ACTS = 40;
    private static final int MOST_BID = 99;
    /** Eight SQUARES in six CELLS: nine CELLS can't all be laid with eight. */
    private static final int MOST_LAYINGS = 20160;

    /** What is known of a SQUARE, in the order in which it stands in its row. */
    private static final int HOUSE = 0;
    private static final int SHADE = 1;
    private static final int WEIGHT = 2;
    private static final int COLOUR = 3;
    private static final int LIKED = 4;
    private static final int MARKS = 5;
    private static final int TRAITS = 9;

    private static final int RED = 1;
    private static final int WIDOWS = 2;

    private static final int SIDES = 4;
    private static final int ABOVE = 0;
    private static final int RIGHT = 1;
    private static final int BELOW = 2;
    private static final int LEFT = 3;

    private static final int HOUSES = 0;
    private static final int SHADES = 1;
    private static final int WEIGHTS = 2;
    private static final int REDS = 3;
    private static final int EDGES = 4;
    private static final int LAWS = 5;
    private static final int WEIGHTS_NOT_ASKED = 9;

    private static final int[] GROUND_HIGHEST = {3, 3};
    private static final int[] LAW_HIGHEST = {1, 2, 9, 1, 1};
    /** Of SQUARES; what is above nine is told in four digits. */
    private static final int[] TRAITS_HIGHEST = {9, 9, 9, 2, 9, 9999};

    private static final int[] GROUND_AT_FIRST = {2, 2};
    private static final int[] LAW_AT_FIRST = {1, 0, 9, 0, 0};
    private static final int[] TRAITS_AT_FIRST = {0, 5, 1, 0, 1, 0, 0, 0, 0};

    private final Tape tape;
    private final QuiltReader reader;
    private final Likings likings;
    private final Layings staying;
    private final Layings free;
    private final Layings tried;
    private final Twist twisted;
    private final int[] otherLaw;
    /** Never null: without a QUILT it is one of no CELLS and no SQUARES. */
    private Quilt quilt;

    public QuiltLaw() {
        tape = new Tape();
        reader = new QuiltReader();
        likings = new Likings();
        quilt = new Quilt(0, 0, 0, new int[0], LAW_AT_FIRST);
        staying = new Layings(quilt);
        free = new Layings(quilt);
        tried = new Layings(quilt);
        twisted = new Twist(quilt);
        otherLaw = new int[LAWS];
    }

    public int feed(int a, int b, int c, int d, int e) {
        int more = Tape.told(a) + Tape.told(b) + Tape.told(c) + Tape.told(d) + Tape.told(e);
        if (tape.length() + more > MOST_BYTES) {
            return NONE;
        }
        tape.add(a);
        tape.add(b);
        tape.add(c);
        tape.add(d);
        tape.add(e);
        return tape.length();
    }

    public boolean end(int n) {
        return tape.cut(n);
    }

    public int fault(int sort) {
        if (sort == A_QUILT) {
            return reader.check(tape);
        }
        return sort == A_LIKING ? likings.check(tape) : NO_SORT;
    }

    public int text(int sort) {
        int answer = NONE;
        if (sort == A_QUILT && reader.check(tape) == NONE) {
            quilt = reader.made();
            answer = quilt.squares();
        } else if (sort == A_LIKING && likings.check(tape) == NONE) {
            answer = likings.keep(tape);
        }
        if (answer != NONE) {
            tape.cut(0);
        }
        return answer;
    }

    public int square(int square, int what) throws NoSuchElementException {
        if (!quilt.hasSquare(square) || what < 0 || what > 7) {
            throw new NoSuchElementException();
        }
        switch (what) {
            case 5:
                return quilt.marksOf(square);
            case 6:
                return quilt.turnOf(square);
            case 7:
                return quilt.placeOf(square);
            default:
                return quilt.trait(square, what);
        }
    }

    public int law(int what) {
        return quilt.isThere() ? quilt.lawOf(what) : NONE;
    }

    public boolean change(int what, int v) {
        if (!quilt.isThere() || what < 0 || what >= LAW_HIGHEST.length || v < 0 || v > LAW_HIGHEST[what]) {
            return false;
        }
        quilt.setLaw(what, v);
        return true;
    }

    public boolean liking(int liking) {
        return likings.choose(liking);
    }

    public int lay(int cell, int square) {
        if (!quilt.isEmpty(cell) || !quilt.isLeft(square)) {
            return NONE;
        }
        int acts = quilt.remember();
        quilt.put(cell, square);
        return acts;
    }

    public int take(int cell) {
        if (quilt.at(cell) == NONE) {
            return NONE;
        }
        int acts = quilt.remember();
        quilt.put(cell, NONE);
        return acts;
    }

    public int turn(int square, int turn) {
        if (!quilt.hasSquare(square) || turn < 0 || turn >= SIDES || turn == quilt.turnOf(square)) {
            return NONE;
        }
        int acts = quilt.remember();
        quilt.setTurn(square, turn);
        return acts;
    }

    public int undo() {
        return quilt.stepBack();
    }

    public int cell(int cell) {
        return quilt.at(cell);
    }

    public int broken(int cell) {
        return quilt.at(cell) == NONE ? NONE : quilt.breaks(cell);
    }

    public int first(int what) {
        int cell = quilt.firstToBreak();
        if (cell == NONE || !isZeroOrOne(what)) {
            return NONE;
        }
        return what == 0 ? cell : lowestBit(quilt.breaks(cell));
    }

    public int liked() {
        return quilt.isThere() ? likings.together(quilt) : HIDDEN;
    }

    public int weighs(int row) {
        return quilt.hasRow(row) ? quilt.weightOf(row) : NONE;
    }

    public int mates(int square) {
        return quilt.hasSquare(square) ? quilt.partners(square, false, quilt.law) : NONE;
    }

    public int layings(int i) {
        if (!quilt.isThere()) {
            return NONE;
        }
        staying.list(quilt, true);
        return i == NONE ? staying.many() : staying.code(i);
    }

    public int best(int what) {
        if (!quilt.isThere() || !isZeroOrOne(what)) {
            return HIDDEN;
        }
        staying.list(quilt, true);
        int[] worths = likings.worthsOf(quilt);
        int i = staying.mostLiked(worths);
        if (i == NONE) {
            return HIDDEN;
        }
        return what == 0 ? staying.code(i) : staying.together(i, worths);
    }

    public int bars() {
        if (layings(NONE) != 0) {
            return NONE;
        }
        int bits = 0;
        for (int law = 0; law < LAWS; law++) {
            int off = law == WEIGHTS ? WEIGHTS_NOT_ASKED : 0;
            if (couldBeLaid(law, off)) {
                bits |= 1 << law;
            }
        }
        return bits;
    }

    public int late(int square, int cell, int what) {
        if (!quilt.hasSquare(square) || !quilt.hasCell(cell)) {
            return NONE;
        }
        return nearest(square, cell, what);
    }

    public int twist(int what) {
        if (!quilt.isThere() || !isZeroOrOne(what) || !twisted.find(quilt)) {
            return NONE;
        }
        return what == 0 ? twisted.fewest() : twisted.code();
    }

    public int patch(int cell, int what) {
        if (!quilt.isEmpty(cell) || !isZeroOrOne(what)) {
            return HIDDEN;
        }
        int bits = quilt.patches(cell);
        return what == 0 ? bits : likings.dearest(quilt, cell, bits);
    }

    public boolean bid(int square, int corner, int v) {
        return quilt.corners.put(square, corner, v);
    }

    public int won(int what) {
        if (!quilt.isThere() || !isZeroOrOne(what)) {
            return NONE;
        }
        quilt.corners.find(NONE);
        return what == 0 ? quilt.corners.greatest() : quilt.corners.holders();
    }

    public int price(int corner) {
        return quilt.corners.cost(corner);
    }

    public int lot(long seed) {
        int laid = quilt.laid();
        if (laid >= quilt.cells() || laid >= quilt.squares()) {
            return NONE;
        }
        int acts = quilt.remember();
        long x = seed;
        for (int cell = 0; cell < quilt.cells(); cell++) {
            int left = quilt.squares() - quilt.laid();
            if (left > 0 && quilt.isEmpty(cell)) {
                x = drawAfter(x);
                quilt.put(cell, quilt.leftOver(drawn(x, left)));
            }
        }
        return acts;
    }

    public int one(long seed) {
        int many = layings(NONE);
        return many > 0 ? staying.code(drawn(drawAfter(seed), many)) : NONE;
    }

    public int use(int square, int cell) {
        if (!quilt.hasSquare(square) || cell != NONE && !quilt.hasCell(cell)) {
            return NONE;
        }
        staying.list(quilt, true);
        return staying.uses(square, cell);
    }

    public int ease() {
        if (!quilt.isThere() || !couldBeLaid(WEIGHTS, WEIGHTS_NOT_ASKED)) {
            return NONE;
        }
        for (int weights = 0; weights < WEIGHTS_NOT_ASKED; weights++) {
            if (couldBeLaid(WEIGHTS, weights)) {
                return weights;
            }
        }
        return WEIGHTS_NOT_ASKED;
    }

    public int mend(int what) {
        return quilt.isThere() ? nearest(NONE, NONE, what) : NONE;
    }

    public int seams() {
        return quilt.isThere() ? quilt.alikeSeams() : NONE;
    }

    public int dark(int what) {
        if (!quilt.isThere() || !isZeroOrOne(what)) {
            return NONE;
        }
        return quilt.darkest(what == 1);
    }

    public int hoard(int house, int what) {
        if (!quilt.isThere() || house < 0 || house > 9 || !isZeroOrOne(what)) {
            return NONE;
        }
        return quilt.hoarded(house, what == 0);
    }

    public int image() {
        if (!quilt.isThere()) {
            return NONE;
        }
        quilt.keepImage();
        return quilt.laid();
    }

    public int back() {
        return quilt.becomeImage() ? quilt.laid() : NONE;
    }

    public int swaps() {
        return quilt.exchanges();
    }

    public int count(int what) {
        switch (what) {
            case 0:
                return quilt.rows;
            case 1:
                return quilt.columns;
            case 2:
                return quilt.squares();
            case 3:
                return likings.many();
            case 4:
                return tape.length();
            case 5:
                return quilt.laid();
            case 6:
                return likings.chosen();
            case 7:
                return quilt.acts.many();
            case 8:
                return quilt.corners.many();
            default:
                return HIDDEN;
        }
    }

    private static boolean isZeroOrOne(int what) {
        return what == 0 || what == 1;
    }

    private static int lowestBit(int bits) {
        for (int law = 0; law < LAWS; law++) {
            if ((bits >> law & 1) != 0) {
                return law;
            }
        }
        return NONE;
    }

    private static long drawAfter(long x) {
        return x * 6364136223846793005L + 1442695040888963407L;
    }

    private static int drawn(long x, int k) {
        return k > 0 ? (int) ((x >>> 33) % k) : 0;
    }

    /** Whether there is a LAYING with one LAW otherwise than it is. */
    private boolean couldBeLaid(int law, int v) {
        for (int k = 0; k < otherLaw.length; k++) {
            otherLaw[k] = k == law ? v : quilt.lawOf(k);
        }
        return tried.isAny(quilt, otherLaw);
    }

    private int nearest(int square, int cell, int what) {
        if (!isZeroOrOne(what)) {
            return NONE;
        }
        free.list(quilt, false);
        int i = free.nearest(square, cell);
        if (i == NONE) {
            return NONE;
        }
        return what == 0 ? free.changes(i) : free.code(i);
    }

    private static final class Tape {
        private final int[] bytes = new int[MOST_BYTES];
        private int length;

        static int told(int number) {
            int many = 0;
            for (int shift = 24; shift >= 0; shift -= 8) {
                if ((number >>> shift & 255) != 0) {
                    many++;
                }
            }
            return many;
        }

        void add(int number) {
            for (int shift = 24; shift >= 0; shift -= 8) {
                int one = number >>> shift & 255;
                if (one != 0 && length >= 0 && length < bytes.length) {
                    bytes[length] = one;
                    length++;
                }
            }
        }

        boolean cut(int n) {
            if (n < 0 || n > length) {
                return false;
            }
            length = n;
            return true;
        }

        int length() {
            return length;
        }

        int at(int i) {
            return i >= 0 && i < length && i < bytes.length ? bytes[i] : NONE;
        }
    }

    /** Goes over the signs of a TEXT; behind a fault it finds no sign any more. */
    private abstract static class Reader {
        private static final int END = -1;
        private static final int STOPPED = -2;
        private static final int BLANK = 32;

        private int[] bytes = new int[0];
        private int length;
        private int place;
        private int faultAt;

        final void open(int[] text, int size) {
            bytes = text;
            length = Math.min(size, text.length);
            place = 0;
            faultAt = NONE;
        }

        /** The byte right here, be it a blank. */
        final int here() {
            if (faultAt != NONE) {
                return STOPPED;
            }
            return place < length && place < bytes.length ? bytes[place] : END;
        }

        /** The next sign, blanks passed over. */
        final int next() {
            while (place < length && place < bytes.length && bytes[place] == BLANK) {
                place++;
            }
            if (faultAt != NONE) {
                return STOPPED;
            }
            return place < length && place < bytes.length ? bytes[place] : END;
        }

        final void step() {
            place++;
        }

        final boolean accept(int sign) {
            if (next() != sign) {
                return false;
            }
            place++;
            return true;
        }

        final void expect(int sign) {
            if (next() == sign) {
                place++;
            } else {
                fail();
            }
        }

        final int digit(int lowest, int highest) {
            int digit = here() - '0';
            if (digit < lowest || digit > highest) {
                fail();
                return lowest;
            }
            place++;
            return digit;
        }

        final boolean isDigit(int sign) {
            return sign >= '0' && sign <= '9';
        }

        final void fail() {
            if (faultAt == NONE) {
                faultAt = place;
            }
        }

        final int finish() {
            if (next() != END) {
                fail();
            }
            return faultAt;
        }
    }

    private static final class QuiltReader extends Reader {
        /** A ground, a LAW, eight SQUARES: behind so many no CLAUSE can follow. */
        private static final int MOST_CLAUSES = 10;

        private final int[] ground = new int[2];
        private final int[] law = new int[LAWS];
        private final int[] traits = new int[MOST_SQUARES * TRAITS];
        private int squares;
        private boolean hasGround;
        private boolean hasLaw;

        int check(Tape tape) {
            open(tape.bytes, tape.length());
            begin();
            for (int n = 0; n < MOST_CLAUSES && (n == 0 || accept(';')); n++) {
                clause();
            }
            int fault = finish();
            return fault == NONE && squares == 0 ? tape.length() : fault;
        }

        /** The QUILT of the TEXT that was checked last. */
        Quilt made() {
            return new Quilt(ground[0], ground[1], squares, traits, law);
        }

        private void begin() {
            copyInto(GROUND_AT_FIRST, ground, 0);
            copyInto(LAW_AT_FIRST, law, 0);
            squares = 0;
            hasGround = false;
            hasLaw = false;
        }

        private void clause() {
            int sign = next();
            if (sign == 'g' && !hasGround) {
                hasGround = true;
                step();
                items("rc", 1, GROUND_HIGHEST, ground, 0);
            } else if (sign == 's' && squares < MOST_SQUARES) {
                int start = squares * TRAITS;
                squares++;
                step();
                copyInto(TRAITS_AT_FIRST, traits, start);
                items("hdwkle", 0, TRAITS_HIGHEST, traits, start);
            } else if (sign == 'l' && !hasLaw) {
                hasLaw = true;
                step();
                items("hswre", 0, LAW_HIGHEST, law, 0);
            } else {
                fail();
            }
        }

        private void items(String letters, int lowest, int[] highest, int[] row, int start) {
            int seen = 0;
            for (int n = 0; n < letters.length(); n++) {
                int sign = next();
                int item = sign < 0 ? NONE : letters.indexOf((char) sign);
                if (item < 0 || item >= highest.length || (seen >> item & 1) != 0) {
                    return;
                }
                seen |= 1 << item;
                step();
                next();
                if (highest[item] > 9) {
                    digits(row, start + item);
                } else {
                    set(row, start + item, digit(lowest, highest[item]));
                }
            }
        }

        private void digits(int[] row, int start) {
            for (int side = 0; side < SIDES; side++) {
                set(row, start + side, digit(0, 9));
            }
        }

        private static void set(int[] row, int i, int v) {
            if (i >= 0 && i < row.length) {
                row[i] = v;
            }
        }

        private static void copyInto(int[] from, int[] row, int start) {
            for (int i = 0; i < from.length; i++) {
                set(row, start + i, from[i]);
            }
        }
    }

    /**
     * Reads a LIKING and tells its WORTH in one: each part answers what it is worth,
     * so that what is checked and what is reckoned can't differ.
     */
    private static final class LikingReader extends Reader {
        private static final String LETTERS = "rchdwkl";
        private static final int DEEPEST = 6;
        private static final int MOST_DIGITS = 4;
        private static final int BOUND = 1000000;

        private final int[] values = new int[7];
        /** Whether the CONDITION of the CLAUSE that was read last holds. */
        private boolean holds;

        void setPlace(int row, int column) {
            values[0] = row;
            values[1] = column;
        }

        void setTrait(int trait, int v) {
            int i = trait + 2;
            if (i >= 0 && i < values.length) {
                values[i] = v;
            }
        }

        int worth(int[] text, int length) {
            open(text, length);
            int worth = 0;
            boolean found = false;
            for (int n = 0; n < MOST_BYTES && (n == 0 || accept(';')); n++) {
                expect('y');
                expect(':');
                int sum = clauseSum();
                if (!found && holds) {
                    worth = sum;
                    found = true;
                }
            }
            return worth;
        }

        private int clauseSum() {
            int sign = next();
            boolean first;
            if (sign == '!' || sign == '(') {
                first = unit(0);
            } else {
                int sum = sum(0);
                if (!isComparison(next())) {
                    holds = true;
                    return sum;
                }
                first = compared(sum, 0);
            }
            holds = anyOf(allOf(first, 0), 0);
            expect('?');
            return sum(0);
        }

        private boolean anyOf(boolean first, int depth) {
            boolean held = first;
            for (int n = 0; n < MOST_BYTES && accept('|'); n++) {
                boolean other = allOf(unit(depth), depth);
                held = held || other;
            }
            return held;
        }

        private boolean allOf(boolean first, int depth) {
            boolean held = first;
            for (int n = 0; n < MOST_BYTES && accept('&'); n++) {
                boolean other = unit(depth);
                held = held && other;
            }
            return held;
        }

        private boolean unit(int depth) {
            int sign = next();
            if (sign == '!' || sign == '(') {
                return within(sign, depth) == 1;
            }
            return compared(sum(depth), depth);
        }

        /** What one of ( [ ! is worth with what it holds: a truth 1 or 0. */
        private int within(int sign, int depth) {
            if (depth >= DEEPEST) {
                fail();
                return 0;
            }
            step();
            int inner = depth + 1;
            if (sign == '!') {
                return unit(inner) ? 0 : 1;
            }
            if (sign == '[') {
                int sum = sum(inner);
                expect(']');
                return sum;
            }
            boolean held = anyOf(allOf(unit(inner), inner), inner);
            expect(')');
            return held ? 1 : 0;
        }

        private static boolean isComparison(int sign) {
            return sign == '=' || sign == '<' || sign == '>';
        }

        private boolean compared(int left, int depth) {
            int sign = next();
            if (!isComparison(sign)) {
                fail();
                return false;
            }
            step();
            int right = sum(depth);
            if (sign == '=') {
                return left == right;
            }
            return sign == '<' ? left < right : left > right;
        }

        private int sum(int depth) {
            int sum = term(depth);
            for (int n = 0; n < MOST_BYTES; n++) {
                if (accept('+')) {
                    sum = bounded((long) sum + term(depth));
                } else if (accept('-')) {
                    sum = bounded((long) sum - term(depth));
                } else {
                    return sum;
                }
            }
            return sum;
        }

        private int term(int depth) {
            int term = atom(depth);
            for (int n = 0; n < MOST_BYTES; n++) {
                if (accept('*')) {
                    term = bounded((long) term * atom(depth));
                } else if (accept('/')) {
                    int divisor = atom(depth);
                    term = divisor == 0 ? 0 : bounded(term / divisor);
                } else {
                    return term;
                }
            }
            return term;
        }

        private static int bounded(long number) {
            return (int) Math.max(-BOUND, Math.min(BOUND, number));
        }

        private int atom(int depth) {
            int sign = next();
            if (isDigit(sign)) {
                return number();
            }
            if (sign == '[') {
                return within(sign, depth);
            }
            int letter = sign < 0 ? NONE : LETTERS.indexOf((char) sign);
            if (letter < 0 || letter >= values.length) {
                fail();
                return 0;
            }
            step();
            return values[letter];
        }

        /** A fifth digit is left where it is: no sign of a TEXT can stand there. */
        private int number() {
            int number = 0;
            for (int n = 0; n < MOST_DIGITS && isDigit(here()); n++) {
                number = number * 10 + here() - '0';
                step();
            }
            return number;
        }
    }

    private static final class Likings {
        private final int[][] texts = new int[MOST_LIKINGS][MOST_BYTES];
        private final int[] lengths = new int[MOST_LIKINGS];
        private final int[] worths = new int[MOST_CELLS * MOST_SQUARES];
        private final LikingReader reader = new LikingReader();
        private int many;
        private int chosen = NONE;

        int check(Tape tape) {
            reader.worth(tape.bytes, tape.length());
            return reader.finish();
        }

        int keep(Tape tape) {
            int number = many;
            if (number < 0 || number >= texts.length || number >= lengths.length) {
                return NONE;
            }
            int[] text = texts[number];
            for (int i = 0; i < tape.length() && i < text.length; i++) {
                text[i] = tape.at(i);
            }
            lengths[number] = tape.length();
            many++;
            return number;
        }

        boolean choose(int liking) {
            if (liking < NONE || liking >= many) {
                return false;
            }
            chosen = liking;
            return true;
        }

        int many() {
            return many;
        }

        int chosen() {
            return chosen;
        }

        int worth(Quilt quilt, int square, int cell) {
            if (chosen < 0 || chosen >= texts.length || chosen >= lengths.length) {
                return quilt.trait(square, LIKED);
            }
            reader.setPlace(quilt.rowOf(cell), quilt.columnOf(cell));
            for (int trait = HOUSE; trait <= LIKED; trait++) {
                reader.setTrait(trait, quilt.trait(square, trait));
            }
            return reader.worth(texts[chosen], lengths[chosen]);
        }

        int together(Quilt quilt) {
            int sum = 0;
            for (int cell = 0; cell < quilt.cells(); cell++) {
                int square = quilt.at(cell);
                if (square != NONE) {
                    sum += worth(quilt, square, cell);
                }
            }
            return sum;
        }

        /** All LIKINGS of SQUARES in CELLS, reckoned once for many LAYINGS. */
        int[] worthsOf(Quilt quilt) {
            for (int cell = 0; cell < quilt.cells(); cell++) {
                for (int square = 0; square < quilt.squares(); square++) {
                    int i = cell * MOST_SQUARES + square;
                    if (i < worths.length) {
                        worths[i] = worth(quilt, square, cell);
                    }
                }
            }
            return worths;
        }

        int dearest(Quilt quilt, int cell, int bits) {
            int dearest = NONE;
            int greatest = 0;
            for (int square = 0; square < quilt.squares(); square++) {
                if ((bits >> square & 1) != 0) {
                    int worth = worth(quilt, square, cell);
                    if (dearest == NONE || worth > greatest) {
                        dearest = square;
                        greatest = worth;
                    }
                }
            }
            return dearest;
        }
    }

    /** What lay ahead of each ACT that can be UNDONE, the oldest first. */
    private static final class Acts {
        private final long[] before = new long[MOST_ACTS];
        private int many;

        int add(long state) {
            if (many >= before.length) {
                System.arraycopy(before, 1, before, 0, before.length - 1);
                many = before.length - 1;
            }
            before[many] = state;
            many++;
            return many;
        }

        /** To be called only while there are ACTS. */
        long removeLatest() {
            if (many <= 0 || many > before.length) {
                return 0;
            }
            many--;
            return before[many];
        }

        void forget() {
            many = 0;
        }

        int many() {
            return many;
        }
    }

    private static final class Quilt {
        private final int rows;
        private final int columns;
        private final int[] traits;
        private final int[] law;
        private final int[] lies;
        private final int[] turned;
        private final int[] darkness;
        private final int[] ways;
        private final Acts acts;
        private final Corners corners;
        private boolean hasImage;
        private long image;
        /** Another one behind each change, so that what was found ahead of it is known as stale. */
        private int stamp;

        Quilt(int rows, int columns, int squares, int[] traits, int[] law) {
            this.rows = Math.max(0, Math.min(rows, MOST_ROWS));
            this.columns = Math.max(0, Math.min(columns, MOST_COLUMNS));
            int many = Math.max(0, Math.min(squares, MOST_SQUARES));
            this.traits = Arrays.copyOf(traits, many * TRAITS);
            this.law = Arrays.copyOf(law, LAWS);
            this.lies = new int[this.rows * this.columns];
            Arrays.fill(this.lies, NONE);
            this.turned = new int[many];
            this.darkness = new int[this.rows * this.columns];
            this.ways = new int[this.rows * this.columns];
            this.acts = new Acts();
            this.corners = new Corners(many, ends(this.rows) * ends(this.columns));
        }

        /** How many of so many in a line are the first or the last. */
        private static int ends(int many) {
            return Math.min(many, 2);
        }

        boolean isThere() {
            return turned.length > 0;
        }

        int squares() {
            return turned.length;
        }

        int cells() {
            return lies.length;
        }

        boolean hasSquare(int square) {
            return square >= 0 && square < turned.length;
        }

        boolean hasCell(int cell) {
            return cell >= 0 && cell < lies.length;
        }

        boolean hasRow(int row) {
            return row >= 0 && row < rows;
        }

        int at(int cell) {
            return cell >= 0 && cell < lies.length ? lies[cell] : NONE;
        }

        int turnOf(int square) {
            return square >= 0 && square < turned.length ? turned[square] : 0;
        }

        int trait(int square, int trait) {
            if (square < 0 || square >= turned.length) {
                return 0;
            }
            int i = square * TRAITS + trait;
            return i >= 0 && i < traits.length ? traits[i] : 0;
        }

        int lawOf(int what) {
            return what >= 0 && what < law.length ? law[what] : NONE;
        }

        int rowOf(int cell) {
            return columns > 0 ? cell / columns : 0;
        }

        int columnOf(int cell) {
            return columns > 0 ? cell % columns : 0;
        }

        int leftOf(int cell) {
            return columnOf(cell) > 0 ? cell - 1 : NONE;
        }

        int aboveOf(int cell) {
            return rowOf(cell) > 0 ? cell - columns : NONE;
        }

        int placeOf(int square) {
            for (int cell = 0; cell < lies.length; cell++) {
                if (lies[cell] == square) {
                    return cell;
                }
            }
            return NONE;
        }

        boolean isEmpty(int cell) {
            return hasCell(cell) && lies[cell] == NONE;
        }

        boolean isLeft(int square) {
            return hasSquare(square) && placeOf(square) == NONE;
        }

        int laid() {
            int many = 0;
            for (int cell = 0; cell < lies.length; cell++) {
                if (lies[cell] != NONE) {
                    many++;
                }
            }
            return many;
        }

        /** The SQUARE at a number among those that do not lie. */
        int leftOver(int number) {
            int ahead = 0;
            for (int square = 0; square < turned.length; square++) {
                if (isLeft(square)) {
                    if (ahead == number) {
                        return square;
                    }
                    ahead++;
                }
            }
            return NONE;
        }

        void put(int cell, int square) {
            if (hasCell(cell)) {
                lies[cell] = square;
                stamp++;
            }
        }

        void setTurn(int square, int turn) {
            if (hasSquare(square)) {
                turned[square] = turn;
                stamp++;
            }
        }

        void setLaw(int what, int v) {
            if (what >= 0 && what < law.length) {
                law[what] = v;
                stamp++;
            }
        }

        /** What lies and the TURNS in one number: four bits a CELL, above them two a SQUARE. */
        private long state() {
            long state = 0;
            for (int square = turned.length - 1; square >= 0; square--) {
                state = state << 2 | turned[square];
            }
            for (int cell = lies.length - 1; cell >= 0; cell--) {
                state = state << 4 | (lies[cell] + 1);
            }
            return state;
        }

        private void become(long state) {
            long rest = state;
            for (int cell = 0; cell < lies.length; cell++) {
                lies[cell] = (int) (rest & 15) - 1;
                rest >>>= 4;
            }
            for (int square = 0; square < turned.length; square++) {
                turned[square] = (int) (rest & 3);
                rest >>>= 2;
            }
            stamp++;
        }

        int remember() {
            return acts.add(state());
        }

        int stepBack() {
            if (acts.many() == 0) {
                return NONE;
            }
            become(acts.removeLatest());
            return acts.many();
        }

        void keepImage() {
            image = state();
            hasImage = true;
        }

        boolean becomeImage() {
            if (!hasImage) {
                return false;
            }
            become(image);
            acts.forget();
            return true;
        }

        private int imageAt(int cell) {
            return hasCell(cell) ? (int) (image >>> 4 * cell & 15) - 1 : NONE;
        }

        /** A ring of n SQUARES that have to change places with one another takes n - 1 exchanges. */
        int exchanges() {
            if (!hasImage || !liesAsImaged()) {
                return NONE;
            }
            int rings = 0;
            int seen = 0;
            for (int cell = 0; cell < lies.length; cell++) {
                if (lies[cell] != NONE && (seen >> cell & 1) == 0) {
                    rings++;
                    seen |= ringOf(cell);
                }
            }
            return laid() - rings;
        }

        private int ringOf(int cell) {
            int ring = 0;
            int at = cell;
            for (int n = 0; n < lies.length && at != NONE; n++) {
                ring |= 1 << at;
                at = placeOf(imageAt(at));
            }
            return ring;
        }

        private boolean liesAsImaged() {
            int now = 0;
            int then = 0;
            for (int cell = 0; cell < lies.length; cell++) {
                int square = lies[cell];
                int imaged = imageAt(cell);
                if ((square == NONE) != (imaged == NONE)) {
                    return false;
                }
                if (square != NONE) {
                    now |= 1 << square;
                    then |= 1 << imaged;
                }
            }
            return now == then;
        }

        /** The mark on a side of a SQUARE, were it TURNED so. */
        int mark(int square, int side, int turn) {
            if (square < 0 || square >= turned.length) {
                return 0;
            }
            int i = square * TRAITS + MARKS + (side - turn & 3);
            return i < traits.length ? traits[i] : 0;
        }

        int marksOf(int square) {
            int marks = 0;
            for (int side = 0; side < SIDES; side++) {
                marks = marks * 10 + mark(square, side, turnOf(square));
            }
            return marks;
        }

        private boolean marksMeet(int one, int other, boolean below) {
            int mark = mark(one, below ? BELOW : RIGHT, turnOf(one));
            return mark == mark(other, below ? ABOVE : LEFT, turnOf(other));
        }

        /** LAWS (bits) that another SQUARE breaks to the right of one, or below it; WEIGHTS not asked. */
        private int clash(int one, int other, boolean below, int[] rules) {
            if (!hasSquare(one) || !hasSquare(other) || rules.length < LAWS) {
                return 0;
            }
            int bits = 0;
            if (rules[HOUSES] == 1 && trait(one, HOUSE) == trait(other, HOUSE)) {
                bits |= 1 << HOUSES;
            }
            if (rules[SHADES] > (below ? 1 : 0) && trait(other, SHADE) > trait(one, SHADE)) {
                bits |= 1 << SHADES;
            }
            if (rules[REDS] == 1 && areRedAndWidows(trait(one, COLOUR), trait(other, COLOUR))) {
                bits |= 1 << REDS;
            }
            if (rules[EDGES] == 1 && !marksMeet(one, other, below)) {
                bits |= 1 << EDGES;
            }
            return bits;
        }

        private static boolean areRedAndWidows(int one, int other) {
            return one == RED && other == WIDOWS || one == WIDOWS && other == RED;
        }

        /** Other SQUARES (bits) that may lie to the right of one, or below it. */
        int partners(int square, boolean below, int[] rules) {
            int bits = 0;
            for (int other = 0; other < turned.length; other++) {
                if (other != square && clash(square, other, below, rules) == 0) {
                    bits |= 1 << other;
                }
            }
            return bits;
        }

        int breaks(int cell) {
            int square = at(cell);
            int bits = clash(at(leftOf(cell)), square, false, law) | clash(at(aboveOf(cell)), square, true, law);
            return endsUnlikeRow(cell) ? bits | 1 << WEIGHTS : bits;
        }

        int weightOf(int row) {
            int weight = 0;
            for (int column = 0; column < columns; column++) {
                weight += trait(at(row * columns + column), WEIGHT);
            }
            return weight;
        }

        private boolean isFull(int row) {
            for (int column = 0; column < columns; column++) {
                if (at(row * columns + column) == NONE) {
                    return false;
                }
            }
            return true;
        }

        /** Whether a CELL ends a full ROW that weighs too unlike a full one ahead of it. */
        private boolean endsUnlikeRow(int cell) {
            int weights = lawOf(WEIGHTS);
            int row = rowOf(cell);
            if (weights == WEIGHTS_NOT_ASKED || columnOf(cell) != columns - 1 || !isFull(row)) {
                return false;
            }
            for (int ahead = 0; ahead < row; ahead++) {
                if (isFull(ahead) && Math.abs(weightOf(ahead) - weightOf(row)) > weights) {
                    return true;
                }
            }
            return false;
        }

        int firstToBreak() {
            for (int cell = 0; cell < lies.length; cell++) {
                if (breaks(cell) != 0) {
                    return cell;
                }
            }
            return NONE;
        }

        private int breakers() {
            int many = 0;
            for (int cell = 0; cell < lies.length; cell++) {
                if (breaks(cell) != 0) {
                    many++;
                }
            }
            return many;
        }

        /** SQUARES (bits) that do not lie and patch an empty CELL; each is laid there for a look only. */
        int patches(int cell) {
            if (!isEmpty(cell)) {
                return 0;
            }
            int bits = 0;
            int now = breakers();
            for (int square = 0; square < turned.length; square++) {
                if (isLeft(square)) {
                    lies[cell] = square;
                    if (breakers() <= now) {
                        bits |= 1 << square;
                    }
                    lies[cell] = NONE;
                }
            }
            return bits;
        }

        int alikeSeams() {
            int many = 0;
            for (int cell = 0; cell < lies.length; cell++) {
                if (isSeam(at(leftOf(cell)), lies[cell], false)) {
                    many++;
                }
                if (isSeam(at(aboveOf(cell)), lies[cell], true)) {
                    many++;
                }
            }
            return many;
        }

        private boolean isSeam(int one, int other, boolean below) {
            return one != NONE && other != NONE && marksMeet(one, other, below);
        }

        int darkest(boolean asWays) {
            for (int cell = 0; cell < lies.length; cell++) {
                darken(cell);
            }
            int last = lies.length - 1;
            if (darkTo(last) == NONE) {
                return NONE;
            }
            return asWays ? waysTo(last) : darkTo(last);
        }

        private int darkTo(int cell) {
            return cell >= 0 && cell < darkness.length ? darkness[cell] : NONE;
        }

        private int waysTo(int cell) {
            return cell >= 0 && cell < ways.length ? ways[cell] : 0;
        }

        private void darken(int cell) {
            if (cell < 0 || cell >= darkness.length || cell >= ways.length) {
                return;
            }
            int left = leftOf(cell);
            int above = aboveOf(cell);
            int from = cell == 0 ? 0 : Math.max(darkTo(left), darkTo(above));
            if (at(cell) == NONE || from == NONE) {
                darkness[cell] = NONE;
                ways[cell] = 0;
                return;
            }
            darkness[cell] = from + trait(at(cell), SHADE);
            ways[cell] = cell == 0 ? 1 : waysAt(left, from) + waysAt(above, from);
        }

        private int waysAt(int cell, int dark) {
            return darkTo(cell) == dark ? waysTo(cell) : 0;
        }

        int hoarded(int house, boolean lying) {
            int weight = 0;
            for (int square = 0; square < turned.length; square++) {
                if (trait(square, HOUSE) == house && isLeft(square) != lying) {
                    weight += trait(square, WEIGHT);
                }
            }
            return weight;
        }
    }

    /** BIDS for CORNERS. Which CELLS these are is not asked by any call, only how many there are. */
    private static final class Corners {
        private static final int NOBODY = 9;

        private final int squares;
        private final int corners;
        private final int[] bids;
        private int greatest;
        private int holders;

        Corners(int squares, int corners) {
            this.squares = Math.max(0, Math.min(squares, MOST_SQUARES));
            this.corners = Math.max(0, Math.min(corners, 4));
            this.bids = new int[this.squares * this.corners];
        }

        int many() {
            return corners;
        }

        int greatest() {
            return greatest;
        }

        int holders() {
            return holders;
        }

        boolean put(int square, int corner, int v) {
            int i = placeOf(square, corner);
            if (i < 0 || i >= bids.length || v < 0 || v > MOST_BID) {
                return false;
            }
            bids[i] = v;
            return true;
        }

        private int placeOf(int square, int corner) {
            if (square < 0 || square >= squares || corner < 0 || corner >= corners) {
                return NONE;
            }
            return square * corners + corner;
        }

        private int bidOf(int square, int corner) {
            int i = placeOf(square, corner);
            return i >= 0 && i < bids.length ? bids[i] : 0;
        }

        /** Finds the greatest BIDS together of all SQUARES but one (or NONE), and who has what then. */
        void find(int without) {
            greatest = NONE;
            holders = 0;
            give(0, without == NONE ? 0 : 1 << without, 0, 0);
        }

        /** Digits are tried in rising order: of several that are greatest the first is the least. */
        private void give(int corner, int used, int sum, int code) {
            if (corner >= corners) {
                keep(sum, code);
                return;
            }
            for (int square = 0; square < squares; square++) {
                if ((used >> square & 1) == 0) {
                    give(corner + 1, used | 1 << square, sum + bidOf(square, corner), code * 10 + square);
                }
            }
            give(corner + 1, used, sum, code * 10 + NOBODY);
        }

        private void keep(int sum, int code) {
            if (sum > greatest) {
                greatest = sum;
                holders = code;
            }
        }

        private int holderOf(int corner) {
            int rest = holders;
            for (int after = corners - 1; after > corner; after--) {
                rest /= 10;
            }
            return rest % 10;
        }

        int cost(int corner) {
            if (corner < 0 || corner >= corners) {
                return NONE;
            }
            find(NONE);
            int holder = holderOf(corner);
            if (holder == NOBODY) {
                return NONE;
            }
            int others = greatest - bidOf(holder, corner);
            find(holder);
            return greatest - others;
        }
    }

    /** LAWFUL LAYINGS of all CELLS, in rising order, kept till the quilt is another. */
    private static final class Layings {
        private static final int ALL_BITS = -1;

        private int[] codes = new int[16];
        private int many;
        private int limit;
        private Quilt quilt;
        private int stamp = NONE;
        private int cells;
        private int[] rules;
        private final int[] stays = new int[MOST_CELLS];
        private final int[] laid = new int[MOST_CELLS];
        private final int[] beside = new int[MOST_SQUARES];
        private final int[] below = new int[MOST_SQUARES];
        private final int[] weights = new int[MOST_ROWS];

        Layings(Quilt quilt) {
            this.quilt = quilt;
            this.rules = quilt.law;
        }

        void list(Quilt of, boolean allStay) {
            if (of != quilt || of.stamp != stamp) {
                search(of, allStay, of.law, MOST_LAYINGS);
                stamp = of.stamp;
            }
        }

        boolean isAny(Quilt of, int[] law) {
            search(of, true, law, 1);
            return many > 0;
        }

        private void search(Quilt of, boolean allStay, int[] law, int most) {
            quilt = of;
            rules = law;
            limit = most;
            many = 0;
            cells = Math.min(of.cells(), MOST_CELLS);
            if (of.squares() < cells) {
                return;
            }
            int used = 0;
            for (int cell = 0; cell < stays.length; cell++) {
                stays[cell] = allStay ? of.at(cell) : NONE;
                used |= stays[cell] == NONE ? 0 : 1 << stays[cell];
            }
            for (int square = 0; square < beside.length && square < below.length; square++) {
                beside[square] = of.partners(square, false, law);
                below[square] = of.partners(square, true, law);
            }
            fill(0, used, 0);
        }

        private void fill(int cell, int used, int code) {
            if (cell >= cells) {
                add(code);
                return;
            }
            int open = fitting(cell, used);
            for (int square = 0; square < quilt.squares() && many < limit; square++) {
                if ((open >> square & 1) != 0) {
                    goOn(cell, square, used, code);
                }
            }
        }

        private void goOn(int cell, int square, int used, int code) {
            if (cell < 0 || cell >= laid.length) {
                return;
            }
            laid[cell] = square;
            if (rowKeepsWeight(cell)) {
                fill(cell + 1, used | 1 << square, code * 10 + square);
            }
        }

        /** SQUARES (bits) that may lie in a CELL beside those that are laid ahead of it. */
        private int fitting(int cell, int used) {
            int stay = cell >= 0 && cell < stays.length ? stays[cell] : NONE;
            int open = stay == NONE ? ~used : 1 << stay;
            return open & partnersOf(quilt.leftOf(cell), beside) & partnersOf(quilt.aboveOf(cell), below);
        }

        private int partnersOf(int cell, int[] partners) {
            int square = cell >= 0 && cell < laid.length ? laid[cell] : NONE;
            return square >= 0 && square < partners.length ? partners[square] : ALL_BITS;
        }

        private boolean rowKeepsWeight(int cell) {
            int most = WEIGHTS < rules.length ? rules[WEIGHTS] : WEIGHTS_NOT_ASKED;
            if (most == WEIGHTS_NOT_ASKED || quilt.columnOf(cell) != quilt.columns - 1) {
                return true;
            }
            int row = quilt.rowOf(cell);
            if (row < 0 || row >= weights.length) {
                return true;
            }
            weights[row] = weightUpTo(cell);
            for (int ahead = 0; ahead < row; ahead++) {
                if (Math.abs(weights[ahead] - weights[row]) > most) {
                    return false;
                }
            }
            return true;
        }

        private int weightUpTo(int last) {
            int weight = 0;
            for (int cell = last - quilt.columnOf(last); cell <= last; cell++) {
                if (cell >= 0 && cell < laid.length) {
                    weight += quilt.trait(laid[cell], WEIGHT);
                }
            }
            return weight;
        }

        private void add(int code) {
            if (many >= limit) {
                return;
            }
            if (many >= codes.length) {
                codes = Arrays.copyOf(codes, codes.length * 2);
            }
            codes[many] = code;
            many++;
        }

        int many() {
            return many;
        }

        int code(int i) {
            return i >= 0 && i < many && i < codes.length ? codes[i] : NONE;
        }

        /** Lays the i-th one out in the row of what is laid. */
        private void layOut(int i) {
            int rest = code(i);
            for (int cell = cells - 1; cell >= 0; cell--) {
                if (cell < laid.length) {
                    laid[cell] = rest % 10;
                }
                rest /= 10;
            }
        }

        int mostLiked(int[] worths) {
            int best = NONE;
            int greatest = 0;
            for (int i = 0; i < many; i++) {
                int liked = together(i, worths);
                if (best == NONE || liked > greatest) {
                    best = i;
                    greatest = liked;
                }
            }
            return best;
        }

        int together(int i, int[] worths) {
            layOut(i);
            int sum = 0;
            for (int cell = 0; cell < cells && cell < laid.length; cell++) {
                int place = cell * MOST_SQUARES + laid[cell];
                if (place >= 0 && place < worths.length) {
                    sum += worths[place];
                }
            }
            return sum;
        }

        int uses(int square, int cell) {
            int uses = 0;
            for (int i = 0; i < many; i++) {
                layOut(i);
                if (isLaid(square, cell)) {
                    uses++;
                }
            }
            return uses;
        }

        /** Whether a SQUARE is in a CELL, or in any (NONE), of the one that is laid out. */
        private boolean isLaid(int square, int in) {
            for (int cell = 0; cell < cells && cell < laid.length; cell++) {
                if (laid[cell] == square && (in == NONE || in == cell)) {
                    return true;
                }
            }
            return false;
        }

        /** Which one changes the fewest CELLS; with a SQUARE in a CELL, if it is not NONE. */
        int nearest(int square, int cell) {
            int nearest = NONE;
            int fewest = 0;
            for (int i = 0; i < many; i++) {
                layOut(i);
                int changed = changed();
                if ((nearest == NONE || changed < fewest) && (square == NONE || isLaid(square, cell))) {
                    nearest = i;
                    fewest = changed;
                }
            }
            return nearest;
        }

        int changes(int i) {
            layOut(i);
            return changed();
        }

        /** CELLS that are laid now and have another SQUARE in the one that is laid out. */
        private int changed() {
            int changes = 0;
            for (int cell = 0; cell < cells && cell < laid.length; cell++) {
                if (quilt.at(cell) != NONE && quilt.at(cell) != laid[cell]) {
                    changes++;
                }
            }
            return changes;
        }
    }

    /** The fewest SQUARES that lie TURNED otherwise, so that all marks that touch are alike. */
    private static final class Twist {
        private static final int NOT_YET = MOST_SQUARES + 1;

        private final int[] turns = new int[MOST_CELLS];
        private Quilt quilt;
        private int fewest;
        private int code;

        Twist(Quilt quilt) {
            this.quilt = quilt;
        }

        boolean find(Quilt of) {
            quilt = of;
            fewest = NOT_YET;
            code = 0;
            choose(0, 0, 0);
            return fewest != NOT_YET;
        }

        int fewest() {
            return fewest;
        }

        int code() {
            return code;
        }

        /** TURNS are tried in rising order: of several with the fewest the first is the least. */
        private void choose(int cell, int changed, int chosen) {
            if (changed >= fewest) {
                return;
            }
            if (cell >= quilt.cells()) {
                fewest = changed;
                code = chosen;
                return;
            }
            int square = quilt.at(cell);
            int most = square == NONE ? 1 : SIDES;
            for (int turn = 0; turn < most; turn++) {
                int more = square == NONE || turn == quilt.turnOf(square) ? 0 : 1;
                attempt(cell, turn, changed + more, chosen);
            }
        }

        private void attempt(int cell, int turn, int changed, int chosen) {
            if (cell < 0 || cell >= turns.length) {
                return;
            }
            turns[cell] = turn;
            if (meets(quilt.leftOf(cell), RIGHT, cell, LEFT) && meets(quilt.aboveOf(cell), BELOW, cell, ABOVE)) {
                choose(cell + 1, changed, chosen * 4 + turn);
            }
        }

        private boolean meets(int cell, int side, int other, int otherSide) {
            if (quilt.at(cell) == NONE || quilt.at(other) == NONE) {
                return true;
            }
            return markAt(cell, side) == markAt(other, otherSide);
        }

        private int markAt(int cell, int side) {
            int turn = cell >= 0 && cell < turns.length ? turns[cell] : 0;
            return quilt.mark(quilt.at(cell), side, turn);
        }
    }
}
