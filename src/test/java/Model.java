import java.math.BigInteger;
import java.util.ArrayList;
import java.util.Arrays;
import java.util.HashSet;
import java.util.LinkedList;
import java.util.List;
import java.util.Set;

/**
 * The document read a second time, as plainly as can be and without a thought for time or room:
 * all layings are made and looked at one by one. TEXTS come in as what they say.
 */
final class Model {
    static final int NONE = -1;
    static final int HIDDEN = -1000000;

    int rows;
    int columns;
    List<int[]> squares = new ArrayList<>();
    int[] law = new int[5];
    int[] lies = new int[0];
    int[] turns = new int[0];
    int[][] bids = new int[8][4];
    final LinkedList<int[][]> acts = new LinkedList<>();
    int[][] kept;
    final List<Texts.Liking> likings = new ArrayList<>();
    int holds = NONE;
    private List<int[]> all;
    private final int[] highest = {1, 2, 9, 1, 1};

    int text(Texts.Said said) {
        rows = said.ground[0];
        columns = said.ground[1];
        squares = said.squares;
        law = said.law.clone();
        lies = new int[rows * columns];
        Arrays.fill(lies, NONE);
        turns = new int[squares.size()];
        bids = new int[8][4];
        acts.clear();
        kept = null;
        all = null;
        return squares.size();
    }

    int text(Texts.SaidLiking said) {
        if (likings.size() == 4) {
            return NONE;
        }
        likings.add(said.liking);
        return likings.size() - 1;
    }

    private boolean none() {
        return squares.isEmpty();
    }

    boolean isSquare(int square) {
        return square >= 0 && square < squares.size();
    }

    boolean isCell(int cell) {
        return cell >= 0 && cell < lies.length;
    }

    private static boolean lies(int[] board, int square) {
        return Arrays.stream(board).anyMatch(s -> s == square);
    }

    private int laid() {
        return (int) Arrays.stream(lies).filter(s -> s != NONE).count();
    }

    private int mark(int square, int side, int turn) {
        int[] marks = Arrays.copyOfRange(squares.get(square), 5, 9);
        for (int n = 0; n < turn; n++) {
            marks = new int[] {marks[3], marks[0], marks[1], marks[2]};
        }
        return marks[side];
    }

    long square(int square, int what) {
        if (!isSquare(square) || what < 0 || what > 7) {
            return Checks.THROWN;
        }
        if (what < 5) {
            return squares.get(square)[what];
        }
        if (what == 6) {
            return turns[square];
        }
        if (what == 7) {
            for (int cell = 0; cell < lies.length; cell++) {
                if (lies[cell] == square) {
                    return cell;
                }
            }
            return NONE;
        }
        String marks = "";
        for (int side = 0; side < 4; side++) {
            marks += mark(square, side, turns[square]);
        }
        return Integer.parseInt(marks);
    }

    int law(int what) {
        return none() || what < 0 || what > 4 ? NONE : law[what];
    }

    boolean change(int what, int v) {
        if (none() || what < 0 || what > 4 || v < 0 || v > highest[what]) {
            return false;
        }
        law[what] = v;
        all = null;
        return true;
    }

    boolean liking(int liking) {
        if (liking < NONE || liking >= likings.size()) {
            return false;
        }
        holds = liking;
        return true;
    }

    private int act() {
        acts.addLast(new int[][] {lies.clone(), turns.clone()});
        if (acts.size() > 40) {
            acts.removeFirst();
        }
        return acts.size();
    }

    int lay(int cell, int square) {
        if (!isCell(cell) || !isSquare(square) || lies[cell] != NONE || lies(lies, square)) {
            return NONE;
        }
        int answer = act();
        lies[cell] = square;
        return answer;
    }

    int take(int cell) {
        if (!isCell(cell) || lies[cell] == NONE) {
            return NONE;
        }
        int answer = act();
        lies[cell] = NONE;
        return answer;
    }

    int turn(int square, int turn) {
        if (!isSquare(square) || turn < 0 || turn > 3 || turns[square] == turn) {
            return NONE;
        }
        int answer = act();
        turns[square] = turn;
        all = null;
        return answer;
    }

    private void become(int[][] state) {
        lies = state[0].clone();
        turns = state[1].clone();
        all = null;
    }

    int undo() {
        if (acts.isEmpty()) {
            return NONE;
        }
        become(acts.removeLast());
        return acts.size();
    }

    int cell(int cell) {
        return isCell(cell) ? lies[cell] : NONE;
    }

    private Set<Integer> broken(int[] board, int cell, int[] rules) {
        Set<Integer> laws = new HashSet<>();
        int square = board[cell];
        if (square == NONE) {
            return laws;
        }
        int column = cell % columns;
        int row = cell / columns;
        int[] me = squares.get(square);
        int left = column > 0 ? board[cell - 1] : NONE;
        int above = row > 0 ? board[cell - columns] : NONE;
        for (int other : new int[] {left, above}) {
            if (other == NONE) {
                continue;
            }
            int[] it = squares.get(other);
            if (rules[0] == 1 && it[0] == me[0]) {
                laws.add(0);
            }
            if (rules[3] == 1 && it[3] * me[3] == 2) {
                laws.add(3);
            }
        }
        if (rules[1] >= 1 && left != NONE && me[1] > squares.get(left)[1]) {
            laws.add(1);
        }
        if (rules[1] == 2 && above != NONE && me[1] > squares.get(above)[1]) {
            laws.add(1);
        }
        if (rules[4] == 1 && left != NONE && mark(left, 1, turns[left]) != mark(square, 3, turns[square])) {
            laws.add(4);
        }
        if (rules[4] == 1 && above != NONE && mark(above, 2, turns[above]) != mark(square, 0, turns[square])) {
            laws.add(4);
        }
        if (rules[2] != 9 && column == columns - 1 && full(board, row)) {
            for (int ahead = 0; ahead < row; ahead++) {
                if (full(board, ahead)) {
                    int less = weight(board, row) - weight(board, ahead);
                    if (less > rules[2] || -less > rules[2]) {
                        laws.add(2);
                    }
                }
            }
        }
        return laws;
    }

    private boolean full(int[] board, int row) {
        return !lies(Arrays.copyOfRange(board, row * columns, (row + 1) * columns), NONE);
    }

    private int weight(int[] board, int row) {
        return Arrays.stream(board, row * columns, (row + 1) * columns).filter(s -> s != NONE).map(s -> squares.get(s)[2]).sum();
    }

    int broken(int cell) {
        if (!isCell(cell) || lies[cell] == NONE) {
            return NONE;
        }
        return broken(lies, cell, law).stream().mapToInt(k -> 1 << k).sum();
    }

    int first(int what) {
        for (int cell = 0; cell < lies.length && what >= 0 && what <= 1; cell++) {
            Set<Integer> laws = broken(lies, cell, law);
            if (!laws.isEmpty()) {
                return what == 0 ? cell : laws.stream().mapToInt(k -> k).min().getAsInt();
            }
        }
        return NONE;
    }

    private int worth(int square, int cell) {
        int[] s = squares.get(square);
        if (holds == NONE) {
            return s[4];
        }
        return likings.get(holds).worth(new int[] {cell / columns, cell % columns, s[0], s[1], s[2], s[3], s[4]});
    }

    private int liked(int[] board) {
        int sum = 0;
        for (int cell = 0; cell < board.length; cell++) {
            sum += board[cell] == NONE ? 0 : worth(board[cell], cell);
        }
        return sum;
    }

    int liked() {
        return none() ? HIDDEN : liked(lies);
    }

    int weighs(int row) {
        return row < 0 || row >= rows ? NONE : weight(lies, row);
    }

    int mates(int square) {
        if (!isSquare(square)) {
            return NONE;
        }
        int[] rules = law.clone();
        rules[2] = 9;
        int rowsNow = rows;
        int columnsNow = columns;
        rows = 1;
        columns = 2;
        int bits = 0;
        for (int other = 0; other < squares.size(); other++) {
            if (other != square && broken(new int[] {square, other}, 1, rules).isEmpty()) {
                bits |= 1 << other;
            }
        }
        rows = rowsNow;
        columns = columnsNow;
        return bits;
    }

    private boolean lawful(int[] board, int[] rules) {
        for (int cell = 0; cell < board.length; cell++) {
            if (!broken(board, cell, rules).isEmpty()) {
                return false;
            }
        }
        return true;
    }

    private void boards(int[] board, int cell, List<int[]> into) {
        if (cell == board.length) {
            into.add(board.clone());
            return;
        }
        for (int square = 0; square < squares.size(); square++) {
            if (!lies(Arrays.copyOf(board, cell), square)) {
                board[cell] = square;
                boards(board, cell + 1, into);
            }
        }
    }

    /** All boards of all CELLS, whether LAWFUL or not, in rising order. */
    private List<int[]> boards() {
        List<int[]> boards = new ArrayList<>();
        if (lies.length <= squares.size()) {
            boards(new int[lies.length], 0, boards);
        }
        return boards;
    }

    private List<int[]> lawfulBoards() {
        if (all == null) {
            all = new ArrayList<>();
            for (int[] board : boards()) {
                if (lawful(board, law)) {
                    all.add(board);
                }
            }
        }
        return all;
    }

    private int changed(int[] board) {
        int many = 0;
        for (int cell = 0; cell < board.length; cell++) {
            many += lies[cell] != NONE && lies[cell] != board[cell] ? 1 : 0;
        }
        return many;
    }

    private List<int[]> layings() {
        List<int[]> some = new ArrayList<>();
        for (int[] board : lawfulBoards()) {
            if (changed(board) == 0) {
                some.add(board);
            }
        }
        return some;
    }

    private static int code(int[] board) {
        int code = 0;
        for (int square : board) {
            code = code * 10 + square;
        }
        return code;
    }

    int layings(int i) {
        if (none()) {
            return NONE;
        }
        List<int[]> some = layings();
        return i == NONE ? some.size() : i < 0 || i >= some.size() ? NONE : code(some.get(i));
    }

    int best(int what) {
        if (none() || what < 0 || what > 1) {
            return HIDDEN;
        }
        int[] best = null;
        for (int[] board : layings()) {
            if (best == null || liked(board) > liked(best)) {
                best = board;
            }
        }
        return best == null ? HIDDEN : what == 0 ? code(best) : liked(best);
    }

    private boolean isLaying(int[] rules) {
        for (int[] board : boards()) {
            if (changed(board) == 0 && lawful(board, rules)) {
                return true;
            }
        }
        return false;
    }

    int bars() {
        if (none() || !layings().isEmpty()) {
            return NONE;
        }
        int bits = 0;
        for (int k = 0; k < 5; k++) {
            int[] rules = law.clone();
            rules[k] = k == 2 ? 9 : 0;
            bits |= isLaying(rules) ? 1 << k : 0;
        }
        return bits;
    }

    private int nearest(List<int[]> boards, int what) {
        int[] nearest = null;
        for (int[] board : boards) {
            if (nearest == null || changed(board) < changed(nearest)) {
                nearest = board;
            }
        }
        return nearest == null || what < 0 || what > 1 ? NONE : what == 0 ? changed(nearest) : code(nearest);
    }

    int late(int square, int cell, int what) {
        if (!isSquare(square) || !isCell(cell)) {
            return NONE;
        }
        List<int[]> some = new ArrayList<>();
        for (int[] board : lawfulBoards()) {
            if (board[cell] == square) {
                some.add(board);
            }
        }
        return nearest(some, what);
    }

    int mend(int what) {
        return none() ? NONE : nearest(lawfulBoards(), what);
    }

    int twist(int what) {
        if (none() || what < 0 || what > 1) {
            return NONE;
        }
        int fewest = 99;
        int code = NONE;
        for (int turning = 0; turning < 1 << 2 * lies.length; turning++) {
            int[] tried = new int[lies.length];
            int many = 0;
            boolean fits = true;
            for (int cell = 0; cell < lies.length; cell++) {
                tried[cell] = turning >> 2 * (lies.length - 1 - cell) & 3;
                if (lies[cell] == NONE) {
                    fits &= tried[cell] == 0;
                } else {
                    many += turns[lies[cell]] == tried[cell] ? 0 : 1;
                }
            }
            if (fits && many < fewest && seams(tried, false) == 0) {
                fewest = many;
                code = turning;
            }
        }
        return fewest == 99 ? NONE : what == 0 ? fewest : code;
    }

    /** Pairs of CELLS beside one another, both laid, whose marks are alike (or not), TURNED so. */
    private int seams(int[] tried, boolean alike) {
        int many = 0;
        for (int cell = 0; cell < lies.length; cell++) {
            if (cell % columns < columns - 1 && lies[cell] != NONE && lies[cell + 1] != NONE) {
                many += mark(lies[cell], 1, tried[cell]) == mark(lies[cell + 1], 3, tried[cell + 1]) == alike ? 1 : 0;
            }
            if (cell / columns < rows - 1 && lies[cell] != NONE && lies[cell + columns] != NONE) {
                many += mark(lies[cell], 2, tried[cell]) == mark(lies[cell + columns], 0, tried[cell + columns]) == alike ? 1 : 0;
            }
        }
        return many;
    }

    int seams() {
        return none() ? NONE : seams(Arrays.stream(lies).map(s -> s == NONE ? 0 : turns[s]).toArray(), true);
    }

    private int breakers() {
        int many = 0;
        for (int cell = 0; cell < lies.length; cell++) {
            many += broken(lies, cell, law).isEmpty() ? 0 : 1;
        }
        return many;
    }

    int patch(int cell, int what) {
        if (!isCell(cell) || lies[cell] != NONE || what < 0 || what > 1) {
            return HIDDEN;
        }
        int bits = 0;
        int one = NONE;
        int now = breakers();
        for (int square = 0; square < squares.size(); square++) {
            if (!lies(lies, square)) {
                lies[cell] = square;
                if (breakers() <= now) {
                    bits |= 1 << square;
                    one = one == NONE || worth(square, cell) > worth(one, cell) ? square : one;
                }
                lies[cell] = NONE;
            }
        }
        return what == 0 ? bits : one;
    }

    int corners() {
        if (none()) {
            return 0;
        }
        Set<Integer> cells = new HashSet<>(List.of(0));
        cells.add(columns - 1);
        cells.add((rows - 1) * columns);
        cells.add(rows * columns - 1);
        return cells.size();
    }

    boolean bid(int square, int corner, int v) {
        if (!isSquare(square) || corner < 0 || corner >= corners() || v < 0 || v > 99) {
            return false;
        }
        bids[square][corner] = v;
        return true;
    }

    /** The greatest BIDS together without one SQUARE, and the digits of who has what then. */
    private int[] greatest(int without) {
        int[] powers = {1, 10, 100, 1000, 10000};
        int corners = corners();
        int[] best = {NONE, NONE};
        for (int code = 0; code < powers[corners]; code++) {
            int sum = 0;
            Set<Integer> seen = new HashSet<>();
            boolean fits = true;
            for (int corner = 0; corner < corners && fits; corner++) {
                int who = holder(code, corner);
                if (who != 9) {
                    fits = who < squares.size() && who != without && seen.add(who);
                    sum += fits ? bids[who][corner] : 0;
                }
            }
            if (fits && sum > best[0]) {
                best = new int[] {sum, code};
            }
        }
        return best;
    }

    private int holder(int code, int corner) {
        int[] powers = {1000, 100, 10, 1};
        return code / powers[4 - corners() + corner] % 10;
    }

    int won(int what) {
        return none() || what < 0 || what > 1 ? NONE : greatest(NONE)[what];
    }

    int price(int corner) {
        if (corner < 0 || corner >= corners()) {
            return NONE;
        }
        int[] best = greatest(NONE);
        int who = holder(best[1], corner);
        return who == 9 ? NONE : greatest(who)[0] - (best[0] - bids[who][corner]);
    }

    private static BigInteger next(BigInteger x) {
        return x.multiply(new BigInteger("6364136223846793005"))
            .add(new BigInteger("1442695040888963407")).mod(BigInteger.ONE.shiftLeft(64));
    }

    private static int draw(BigInteger x, int k) {
        return x.shiftRight(33).mod(BigInteger.valueOf(k)).intValue();
    }

    private static BigInteger unsigned(long seed) {
        return BigInteger.valueOf(seed).mod(BigInteger.ONE.shiftLeft(64));
    }

    int lot(long seed) {
        if (none() || laid() == lies.length || laid() == squares.size()) {
            return NONE;
        }
        int answer = act();
        BigInteger x = unsigned(seed);
        for (int cell = 0; cell < lies.length; cell++) {
            List<Integer> left = new ArrayList<>();
            for (int square = 0; square < squares.size(); square++) {
                if (!lies(lies, square)) {
                    left.add(square);
                }
            }
            if (lies[cell] == NONE && !left.isEmpty()) {
                x = next(x);
                lies[cell] = left.get(draw(x, left.size()));
            }
        }
        return answer;
    }

    int one(long seed) {
        List<int[]> some = none() ? new ArrayList<>() : layings();
        return some.isEmpty() ? NONE : code(some.get(draw(next(unsigned(seed)), some.size())));
    }

    int use(int square, int cell) {
        if (!isSquare(square) || cell != NONE && !isCell(cell)) {
            return NONE;
        }
        int many = 0;
        for (int[] board : layings()) {
            many += cell == NONE ? lies(board, square) ? 1 : 0 : board[cell] == square ? 1 : 0;
        }
        return many;
    }

    int ease() {
        for (int weights = 0; weights <= 9 && !none(); weights++) {
            int[] rules = law.clone();
            rules[2] = weights;
            if (isLaying(rules)) {
                return weights;
            }
        }
        return NONE;
    }

    private void ways(int cell, int sum, List<Integer> into) {
        if (lies[cell] == NONE) {
            return;
        }
        int now = sum + squares.get(lies[cell])[1];
        if (cell == lies.length - 1) {
            into.add(now);
        }
        if (cell % columns < columns - 1) {
            ways(cell + 1, now, into);
        }
        if (cell / columns < rows - 1) {
            ways(cell + columns, now, into);
        }
    }

    int dark(int what) {
        if (none() || what < 0 || what > 1) {
            return NONE;
        }
        List<Integer> ways = new ArrayList<>();
        ways(0, 0, ways);
        int most = ways.stream().mapToInt(w -> w).max().orElse(NONE);
        return what == 0 || most == NONE ? most : (int) ways.stream().filter(w -> w == most).count();
    }

    int hoard(int house, int what) {
        if (none() || house < 0 || house > 9 || what < 0 || what > 1) {
            return NONE;
        }
        int sum = 0;
        for (int square = 0; square < squares.size(); square++) {
            sum += squares.get(square)[0] == house && lies(lies, square) == (what == 0) ? squares.get(square)[2] : 0;
        }
        return sum;
    }

    int image() {
        if (none()) {
            return NONE;
        }
        kept = new int[][] {lies.clone(), turns.clone()};
        return laid();
    }

    int back() {
        if (kept == null) {
            return NONE;
        }
        become(kept);
        acts.clear();
        return laid();
    }

    /** Puts each CELL right in turn by one exchange: no exchange can put more than one right that another needs. */
    int swaps() {
        if (kept == null) {
            return NONE;
        }
        int[] now = lies.clone();
        int many = 0;
        for (int cell = 0; cell < now.length; cell++) {
            if ((now[cell] == NONE) != (kept[0][cell] == NONE)) {
                return NONE;
            }
        }
        for (int cell = 0; cell < now.length; cell++) {
            if (now[cell] != kept[0][cell]) {
                int from = cell;
                while (from < now.length && now[from] != kept[0][cell]) {
                    from++;
                }
                if (from == now.length) {
                    return NONE;
                }
                now[from] = now[cell];
                now[cell] = kept[0][cell];
                many++;
            }
        }
        return many;
    }

    int count(int what, int tape) {
        int[] counts = {rows, columns, squares.size(), likings.size(), tape, laid(), holds, acts.size(), corners()};
        return what < 0 || what > 8 ? HIDDEN : counts[what];
    }
}
