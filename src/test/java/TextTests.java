import java.util.ArrayList;
import java.util.List;
import java.util.Random;

/**
 * FAULTS by their definition: the first byte at which no TEXT can go on. Whether a TEXT can go on behind some bytes
 * is found by trying what might follow; whether it is one, by means that know no reading from left to right.
 * And what random LIKINGS are worth.
 */
public final class TextTests {
    private static final int NONE = -1;
    private static final String QUILT_SIGNS = "ggsslllrchdwkle;;;   0123456789  xG\u00a0";
    private static final String LIKING_SIGNS = "y:?|&!()=<>+-*/[];  0123456789rchdwklxs\u00ff";

    private final Checks c = new Checks("TextTests");
    private final Random random = new Random(4711);
    private final Texts texts = new Texts(random);

    public static void main(String[] args) {
        TextTests t = new TextTests();
        t.quilts();
        t.likings();
        t.nested();
        t.worths();
        t.c.close();
    }

    private void quilts() {
        for (int n = 0; n < 900; n++) {
            int rows = 1 + random.nextInt(3);
            String text = texts.quilt(rows, 1 + random.nextInt(3), 1 + random.nextInt(5), n).text;
            c.due("fault(0) of '" + text + "'", Checks.fault(0, text), NONE);
            quiltFault(texts.spoilt(text, QUILT_SIGNS));
        }
        for (int n = 0; n < 400; n++) {
            quiltFault(texts.spoilt("gr1c2;sh1e1234d2;lh0s2", QUILT_SIGNS));
        }
        quiltFault("s;s;s;s;s;s;s;s;s");
        quiltFault("g;s;s;s;s;s;s;s;s;s");
        quiltFault("g;l;s;s;s;s;s;s;s;s;s");
    }

    private void quiltFault(String text) {
        if (text.length() <= 160) {
            c.due("fault(0) of '" + text + "'", Checks.fault(0, text), quiltFaultOf(text));
        }
    }

    private static int quiltFaultOf(String text) {
        for (int n = 1; n <= text.length(); n++) {
            if (!quiltGoesOn(text.substring(0, n))) {
                return n - 1;
            }
        }
        return isQuilt(text) ? NONE : text.length();
    }

    private static boolean quiltGoesOn(String text) {
        for (String digits : new String[] {"", "1", "0000", "000", "00", "0"}) {
            for (String more : new String[] {"", ";s", "s", "g", "l"}) {
                if (isQuilt(text + digits + more)) {
                    return true;
                }
            }
        }
        return false;
    }

    private static boolean isQuilt(String text) {
        int[] seen = new int[128];
        for (String clause : text.split(";", -1)) {
            if (!clause.matches(" *(g( *[rc] *[1-3])*|s( *[hdwl] *\\d| *k *[0-2]| *e *\\d{4})*|l( *[hre] *[01]| *s *[0-2]| *w *\\d)*) *")) {
                return false;
            }
            String plain = clause.replaceAll("[ 0-9]", "");
            String items = plain.substring(1);
            if (items.chars().distinct().count() != items.length()) {
                return false;
            }
            seen[plain.charAt(0)]++;
        }
        return seen['g'] <= 1 && seen['l'] <= 1 && seen['s'] >= 1 && seen['s'] <= 8;
    }

    private void likings() {
        for (int n = 0; n < 900; n++) {
            String text = texts.liking(2).text;
            if (text.length() <= 160) {
                c.due("fault(1) of '" + text + "'", Checks.fault(1, text), NONE);
            }
            if (text.length() <= 40) {
                likingFault(texts.spoilt(text, LIKING_SIGNS));
                likingFault(texts.spoilt(text, LIKING_SIGNS));
            }
        }
        String[] some = {"y:!(r=1|c<[2])&w>3?l*12-d;y:[k]", "y:1234", "y:(r=1)?2", "y:![r]=1?3", "y:r=1&c=2|h>3?4/5"};
        for (int n = 0; n < 500; n++) {
            likingFault(texts.spoilt(some[n % some.length], LIKING_SIGNS));
        }
    }

    /** Many of ( [ ! within one another: six at most. */
    private void nested() {
        for (int n = 0; n < 300; n++) {
            StringBuilder text = new StringBuilder("y:");
            StringBuilder closing = new StringBuilder();
            int depth = 4 + random.nextInt(5);
            int brackets = random.nextInt(depth + 1);
            for (int k = 0; k < depth - brackets; k++) {
                boolean not = random.nextBoolean();
                text.append(not ? "!" : "(");
                closing.insert(0, not ? "" : ")");
            }
            boolean right = random.nextBoolean();
            String sum = "[".repeat(brackets) + "r" + "]".repeat(brackets);
            text.append(right ? "1=" + sum : sum + "=1").append(closing).append("?2");
            likingFault(text.toString());
        }
    }

    private void likingFault(String text) {
        c.due("fault(1) of '" + text + "'", Checks.fault(1, text), likingFaultOf(text));
    }

    private static int likingFaultOf(String text) {
        for (int n = 1; n <= text.length(); n++) {
            if (!likingGoesOn(text.substring(0, n))) {
                return n - 1;
            }
        }
        return isLiking(text) ? NONE : text.length();
    }

    private static boolean likingGoesOn(String text) {
        String clause = text.substring(text.lastIndexOf(';') + 1);
        List<String> ends = new ArrayList<>(List.of("", "1", ":1", "y:1"));
        for (int at = clause.length() - 1, closed = 0; at >= 0; at--) {
            char sign = clause.charAt(at);
            closed += sign == ')' || sign == ']' ? 1 : 0;
            if (sign == '(' || sign == '[') {
                if (closed > 0) {
                    closed--;
                } else {
                    ends = sign == '[' ? with(ends, "]") : with(ends, ")", "=1)");
                }
            }
        }
        for (String end : with(ends, "", "?1", "=1?1")) {
            if (isLiking(text + end)) {
                return true;
            }
        }
        return false;
    }

    private static List<String> with(List<String> ends, String... more) {
        List<String> all = new ArrayList<>();
        for (String end : ends) {
            for (String one : more) {
                all.add(end + one);
            }
        }
        return all;
    }

    private static boolean isLiking(String text) {
        for (String clause : text.split(";", -1)) {
            if (!clause.matches("[ y:?|&!()=<>+*/\\[\\]0-9rchdwkl-]*") || clause.matches(".*\\d{5}.*|.*[0-9a-z] +[0-9a-z].*|.*[a-z0-9][a-z].*|.*[a-z][0-9].*")) {
                return false;
            }
            String left = boiledDown(clause.replace(" ", "").replaceAll("\\d+|[rchdwkl]", "0"));
            if (!left.matches("y:[0-6]|y:[A-G]\\?[0-6]")) {
                return false;
            }
        }
        return true;
    }

    /**
     * Puts a digit for each SUM (how many of [ are within one another in it), a letter for each CONDITION
     * (A none, B one, ..), again and again, till nothing changes; a seventh within one another is put no digit for.
     */
    private static String boiledDown(String clause) {
        String now = clause;
        for (boolean goesOn = true; goesOn;) {
            String was = now;
            now = joined(now, "[0-6][-+*/][0-6]");
            for (char d = '0'; d < '6'; d++) {
                now = now.replace("[" + d + "]", "" + (char) (d + 1));
            }
            goesOn = !now.equals(was);
            if (!goesOn) {
                now = compared(now);
                for (char d = 'A'; d < 'G'; d++) {
                    now = now.replace("!" + d, "" + (char) (d + 1));
                }
                now = now.equals(was) ? joined(now, "(?<!!)[A-G][&|][A-G]") : now;
                for (char d = 'A'; d < 'G'; d++) {
                    now = now.replace("(" + d + ")", "" + (char) (d + 1));
                }
                goesOn = !now.equals(was);
            }
        }
        return now;
    }

    private static String joined(String text, String pattern) {
        java.util.regex.Matcher m = java.util.regex.Pattern.compile(pattern).matcher(text);
        if (!m.find()) {
            return text;
        }
        char more = (char) Math.max(text.charAt(m.start()), text.charAt(m.end() - 1));
        return text.substring(0, m.start()) + more + text.substring(m.end());
    }

    private static String compared(String text) {
        java.util.regex.Matcher m = java.util.regex.Pattern.compile("(?<![-+*/\\[=<>])[0-6][=<>][0-6](?![-+*/\\]=<>])").matcher(text);
        if (!m.find()) {
            return text;
        }
        char more = (char) (Math.max(text.charAt(m.start()), text.charAt(m.end() - 1)) - '0' + 'A');
        return text.substring(0, m.start()) + more + text.substring(m.end());
    }

    private void worths() {
        for (int n = 0; n < 6000; n++) {
            Texts.SaidLiking said = texts.liking(4);
            if (said.text.length() > 160) {
                continue;
            }
            Texts.Said quilt = texts.quilt(3, 3, 1 + random.nextInt(3), 5);
            QuiltLaw y = Checks.quilt(quilt.text);
            c.due("text(1) of " + said.text, Checks.take(y, 1, said.text), 0);
            y.liking(0);
            int square = random.nextInt(quilt.squares.size());
            int[] s = quilt.squares.get(square);
            for (int cell = 0; cell < 9; cell += 1 + random.nextInt(3)) {
                y.lay(cell, square);
                int want = said.liking.worth(new int[] {cell / 3, cell % 3, s[0], s[1], s[2], s[3], s[4]});
                c.due("WORTH of " + said.text + " in " + cell + " of " + quilt.text, y.liked(), want);
                y.take(cell);
            }
        }
    }
}
