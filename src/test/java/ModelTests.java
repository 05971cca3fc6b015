import java.util.Random;

/** Long random runs of calls on a QuiltLaw and on the Model: each answer is compared. */
public final class ModelTests {
    private static final int[][] GROUNDS = {
        {1, 1}, {1, 2}, {2, 1}, {1, 3}, {3, 1}, {2, 2}, {2, 2}, {2, 3}, {3, 2}, {3, 3}};

    private final Checks c = new Checks("ModelTests");
    private final Random random = new Random(20261118);
    private final Texts texts = new Texts(random);
    private QuiltLaw x;
    private Model m;
    private int calls;
    private String run;

    public static void main(String[] args) {
        ModelTests t = new ModelTests();
        for (int run = 0; run < 700; run++) {
            t.run(run);
        }
        t.c.close();
    }

    private void run(int number) {
        x = new QuiltLaw();
        m = new Model();
        calls = 0;
        run = "run " + number;
        while (calls < 440) {
            newQuilt();
            for (int steps = 3 + random.nextInt(12); steps > 0 && calls < 440; steps--) {
                step();
                if (random.nextInt(3) == 0) {
                    ask();
                }
            }
        }
    }

    private void due(String call, long got, long want) {
        calls++;
        c.due(run + " call " + calls + ": " + call, got, want);
    }

    private void due(String call, boolean got, boolean want) {
        due(call, got ? 1 : 0, want ? 1 : 0);
    }

    private void newQuilt() {
        int[] ground = GROUNDS[random.nextInt(GROUNDS.length)];
        int cells = ground[0] * ground[1];
        int most = cells == 6 ? random.nextInt(12) == 0 ? 8 : 7 : 8;
        int squares = 1 + random.nextInt(most);
        Texts.Said said = texts.quilt(ground[0], ground[1], squares, random.nextInt(60));
        if (said.text.length() <= 160) {
            Checks.feed(x, said.text);
            calls += 9;
            due("fault(0) of " + said.text, x.fault(0), QuiltLaw.NONE);
            due("text(0) of " + said.text, x.text(0), m.text(said));
            run = run.replaceAll(" on .*", "") + " on '" + said.text + "'";
        }
        if (random.nextInt(3) == 0) {
            Texts.SaidLiking liking = texts.liking(3);
            if (liking.text.length() <= 160) {
                Checks.feed(x, liking.text);
                calls += 9;
                due("fault(1) of " + liking.text, x.fault(1), QuiltLaw.NONE);
                due("text(1) of " + liking.text, x.text(1), m.text(liking));
                x.end(0);
                calls++;
            }
        }
    }

    private int cell() {
        return random.nextInt(m.lies.length + 2) - 1;
    }

    private int square() {
        return random.nextInt(m.squares.size() + 2) - 1;
    }

    private void step() {
        int cell = cell();
        int square = square();
        int v = random.nextInt(12) - 1;
        switch (random.nextInt(14)) {
            case 0: case 1: case 2: case 3:
                due("lay(" + cell + ", " + square + ")", x.lay(cell, square), m.lay(cell, square));
                break;
            case 4:
                due("take(" + cell + ")", x.take(cell), m.take(cell));
                break;
            case 5: case 6:
                int turn = random.nextInt(6) - 1;
                due("turn(" + square + ", " + turn + ")", x.turn(square, turn), m.turn(square, turn));
                break;
            case 7:
                due("undo()", x.undo(), m.undo());
                break;
            case 8: case 9:
                int what = random.nextInt(7) - 1;
                int to = random.nextInt(2) == 0 ? v : random.nextInt(2);
                due("change(" + what + ", " + to + ")", x.change(what, to), m.change(what, to));
                break;
            case 10:
                due("liking(" + (v - 1) + ")", x.liking(v - 1), m.liking(v - 1));
                break;
            case 11:
                int corner = random.nextInt(6) - 1;
                int bid = random.nextInt(4) == 0 ? random.nextInt(140) - 20 : random.nextInt(6);
                due("bid(" + square + ", " + corner + ", " + bid + ")", x.bid(square, corner, bid), m.bid(square, corner, bid));
                break;
            case 12:
                if (random.nextBoolean()) {
                    long seed = random.nextLong() >> random.nextInt(64);
                    due("lot(" + seed + ")", x.lot(seed), m.lot(seed));
                } else {
                    exchange();
                }
                break;
            default:
                if (random.nextBoolean()) {
                    due("image()", x.image(), m.image());
                } else if (random.nextBoolean()) {
                    due("back()", x.back(), m.back());
                }
                break;
        }
    }

    /** Two SQUARES that lie change places, so that SWAPS have something to tell. */
    private void exchange() {
        int one = random.nextInt(m.lies.length);
        int other = random.nextInt(m.lies.length);
        int first = m.cell(one);
        int second = m.cell(other);
        due("take(" + one + ")", x.take(one), m.take(one));
        due("take(" + other + ")", x.take(other), m.take(other));
        due("lay(" + one + ", " + second + ")", x.lay(one, second), m.lay(one, second));
        due("lay(" + other + ", " + first + ")", x.lay(other, first), m.lay(other, first));
    }

    private void ask() {
        for (int n = 0; n < 14; n++) {
            askOne(random.nextInt(27));
        }
    }

    private void askOne(int which) {
        int cell = cell();
        int square = square();
        int what = random.nextInt(7) == 0 ? random.nextInt(4) - 1 : random.nextInt(2);
        long seed = random.nextLong() >> random.nextInt(64);
        String args = "(" + square + ", " + cell + ", " + what + ") " + which;
        switch (which) {
            case 0:
                int trait = random.nextInt(10) - 1;
                due("square(" + square + ", " + trait + ")", Checks.square(x, square, trait), m.square(square, trait));
                break;
            case 1:
                due("law" + args, x.law(cell), m.law(cell));
                break;
            case 2:
                due("cell" + args, x.cell(cell), m.cell(cell));
                break;
            case 3: case 4:
                due("broken" + args, x.broken(cell), m.broken(cell));
                break;
            case 5:
                due("first" + args, x.first(what), m.first(what));
                break;
            case 6:
                due("liked" + args, x.liked(), m.liked());
                break;
            case 7:
                due("weighs" + args, x.weighs(cell), m.weighs(cell));
                break;
            case 8:
                due("mates" + args, x.mates(square), m.mates(square));
                break;
            case 9:
                due("layings" + args, x.layings(-1), m.layings(-1));
                break;
            case 10:
                int i = random.nextInt(Math.max(1, m.layings(-1)) + 3) - 2;
                due("layings(" + i + ")", x.layings(i), m.layings(i));
                break;
            case 11:
                due("best" + args, x.best(what), m.best(what));
                break;
            case 12:
                due("bars" + args, x.bars(), m.bars());
                break;
            case 13:
                due("late" + args, x.late(square, cell, what), m.late(square, cell, what));
                break;
            case 14:
                due("twist" + args, x.twist(what), m.twist(what));
                break;
            case 15:
                due("patch" + args, x.patch(cell, what), m.patch(cell, what));
                break;
            case 16:
                due("won" + args, x.won(what), m.won(what));
                break;
            case 17:
                int corner = random.nextInt(6) - 1;
                due("price(" + corner + ")", x.price(corner), m.price(corner));
                break;
            case 18:
                due("one(" + seed + ")", x.one(seed), m.one(seed));
                break;
            case 19:
                due("use" + args, x.use(square, cell), m.use(square, cell));
                break;
            case 20:
                due("ease" + args, x.ease(), m.ease());
                break;
            case 21:
                due("mend" + args, x.mend(what), m.mend(what));
                break;
            case 22:
                due("seams" + args, x.seams(), m.seams());
                break;
            case 23:
                due("dark" + args, x.dark(what), m.dark(what));
                break;
            case 24:
                int house = random.nextInt(12) - 1;
                due("hoard(" + house + ") " + args, x.hoard(house, what), m.hoard(house, what));
                break;
            case 25:
                due("swaps" + args, x.swaps(), m.swaps());
                break;
            default:
                int count = random.nextInt(11) - 1;
                due("count(" + count + ")", x.count(count), m.count(count, 0));
                break;
        }
    }
}
