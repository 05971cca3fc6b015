import java.util.NoSuchElementException;

/** What all tests use: counting of what is as due, texts fed to a QuiltLaw. */
final class Checks {
    private final String name;
    private int right;
    private int wrong;

    Checks(String name) {
        this.name = name;
    }

    void due(String what, long got, long want) {
        if (got == want) {
            right++;
            return;
        }
        wrong++;
        if (wrong <= 60) {
            System.out.println(name + ": " + what + " answered " + got + ", due is " + want);
        }
    }

    void yes(String what, boolean got) {
        due(what, got ? 1 : 0, 1);
    }

    void no(String what, boolean got) {
        due(what, got ? 1 : 0, 0);
    }

    int wrong() {
        return wrong;
    }

    int right() {
        return right;
    }

    /** Prints the count and ends with exit code 1 if anything was wrong. */
    void close() {
        System.out.println(name + ": " + right + " answers as due, " + wrong + " not");
        if (wrong != 0 || right == 0) {
            System.exit(1);
        }
    }

    static final long THROWN = Long.MIN_VALUE;

    /** What square answers, THROWN if it throws as the document says. */
    static long square(QuiltLaw x, int square, int what) {
        try {
            return x.square(square, what);
        } catch (NoSuchElementException e) {
            return THROWN;
        }
    }

    private static int four(String text, int from) {
        int number = 0;
        for (int i = from; i < from + 4; i++) {
            number = number << 8 | (i < text.length() ? text.charAt(i) & 255 : 0);
        }
        return number;
    }

    /** Feeds a text (characters 1 to 255), twenty bytes a call; the answer of the last call. */
    static int feed(QuiltLaw x, String text) {
        int answer = x.feed(0, 0, 0, 0, 0);
        for (int i = 0; i < text.length(); i += 20) {
            answer = x.feed(four(text, i), four(text, i + 4), four(text, i + 8), four(text, i + 12), four(text, i + 16));
        }
        return answer;
    }

    /** The FAULT that a new object finds: none is asked more often than the document allows. */
    static int fault(int sort, String text) {
        QuiltLaw x = new QuiltLaw();
        feed(x, text);
        return x.fault(sort);
    }

    /** Feeds a text and takes it; the answer of text. */
    static int take(QuiltLaw x, int sort, String text) {
        x.end(0);
        feed(x, text);
        return x.text(sort);
    }

    /** A new object with a QUILT. */
    static QuiltLaw quilt(String text) {
        QuiltLaw x = new QuiltLaw();
        if (take(x, 0, text) < 1) {
            throw new IllegalStateException("no QUILT: " + text);
        }
        return x;
    }
}
