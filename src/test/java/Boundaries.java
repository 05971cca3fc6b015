import java.io.IOException;
import java.nio.file.Path;

/** Runs small tests, each named by the words of the document that it would find broken. */
final class Boundaries {
    /** One test. */
    interface Body {
        void run(Checks c);
    }

    private final Sentences sentences;
    private int passed;
    private int failed;

    Boundaries(Path document) throws IOException {
        sentences = new Sentences(document);
        count("the document tells its use, 4 terms and 40 promises", sentences.sections() == 45);
    }

    void use(String words, Body body) {
        test("Use", words, body);
    }

    void promise(int number, String words, Body body) {
        test("Promise " + number, words, body);
    }

    void term(int number, String words, Body body) {
        test("Term " + number, words, body);
    }

    private void test(String section, String words, Body body) {
        String name = section + " '" + words + "'";
        count(name + ": the document says so", sentences.quote(section, words));
        Checks c = new Checks(name);
        boolean ended = true;
        try {
            body.run(c);
        } catch (RuntimeException e) {
            ended = false;
            System.out.println(name + " threw " + e);
        }
        count(name, ended && c.wrong() == 0 && c.right() > 0);
    }

    private void count(String what, boolean good) {
        if (good) {
            passed++;
        } else {
            failed++;
            System.out.println("FAILED " + what);
        }
    }

    /** Prints the count and ends with exit code 1 if a test failed, or if words of the document have none. */
    void close() {
        for (String stretch : sentences.unquoted()) {
            count("a test for " + stretch, false);
        }
        System.out.println("BoundaryTests: " + passed + " good, " + failed + " not");
        if (failed != 0) {
            System.exit(1);
        }
    }
}
