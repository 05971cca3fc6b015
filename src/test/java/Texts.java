import java.util.ArrayList;
import java.util.List;
import java.util.Random;

/** Random TEXTS of which it is known what they say: they are made from what they shall say. */
final class Texts {
    private static final String TRAITS = "hdwkl";
    private static final int[] HIGHEST = {9, 9, 9, 2, 9};
    private static final String LAW = "hswre";
    private static final int[] LAW_HIGHEST = {1, 2, 9, 1, 1};

    private final Random random;

    Texts(Random random) {
        this.random = random;
    }

    /** What a QUILT says. */
    static final class Said {
        final int[] ground = {2, 2};
        final int[] law = {1, 0, 9, 0, 0};
        /** Of each SQUARE: HOUSE, SHADE, WEIGHT, COLOUR, LIKED, four marks. */
        final List<int[]> squares = new ArrayList<>();
        String text;
    }

    /** What a LIKING says. */
    interface Liking {
        int worth(int[] values);
    }

    static final class SaidLiking {
        String text;
        Liking liking;
    }

    private boolean chance(int of, int in) {
        return random.nextInt(in) < of;
    }

    private String blanks(boolean some) {
        return some && chance(1, 6) ? " ".repeat(1 + random.nextInt(2)) : "";
    }

    /** Few HOUSES, SHADES, marks: so that LAWS both hold and break. */
    Said quilt(int rows, int columns, int squares, int style) {
        Said said = new Said();
        boolean blanks = style % 3 == 0;
        List<String> clauses = new ArrayList<>();
        for (int n = 0; n < squares; n++) {
            clauses.add(square(said, blanks, style));
        }
        boolean ground = rows != 2 || columns != 2 || chance(1, 2);
        if (ground) {
            clauses.add(random.nextInt(clauses.size() + 1), ground(said, rows, columns, blanks));
        }
        if (chance(4, 5)) {
            clauses.add(random.nextInt(clauses.size() + 1), law(said, blanks, style));
        }
        StringBuilder text = new StringBuilder(blanks(blanks));
        for (String clause : clauses) {
            if (text.toString().trim().length() > 0) {
                text.append(';').append(blanks(blanks));
            }
            text.append(clause).append(blanks(blanks));
        }
        said.text = text.toString();
        return said;
    }

    private String ground(Said said, int rows, int columns, boolean blanks) {
        said.ground[0] = rows;
        said.ground[1] = columns;
        String r = rows != 2 || chance(1, 2) ? "r" + blanks(blanks) + rows + blanks(blanks) : "";
        String c = columns != 2 || chance(1, 2) ? "c" + blanks(blanks) + columns + blanks(blanks) : "";
        return "g" + blanks(blanks) + (chance(1, 2) ? r + c : c + r);
    }

    private String square(Said said, boolean blanks, int style) {
        int[] traits = {0, 5, 1, 0, 1, 0, 0, 0, 0};
        List<String> items = new ArrayList<>();
        for (int i = 0; i < TRAITS.length(); i++) {
            if (chance(2, 3)) {
                traits[i] = random.nextInt(Math.min(HIGHEST[i], style % 2 == 0 ? 9 : 3) + 1);
                items.add(random.nextInt(items.size() + 1), TRAITS.charAt(i) + blanks(blanks) + traits[i] + blanks(blanks));
            }
        }
        if (chance(1, 2)) {
            int most = 1 + random.nextInt(3);
            StringBuilder marks = new StringBuilder();
            for (int side = 0; side < 4; side++) {
                traits[5 + side] = random.nextInt(most + 1);
                marks.append(traits[5 + side]);
            }
            items.add(random.nextInt(items.size() + 1), "e" + blanks(blanks) + marks + blanks(blanks));
        }
        said.squares.add(traits);
        return "s" + blanks(blanks) + String.join("", items);
    }

    private String law(Said said, boolean blanks, int style) {
        List<String> items = new ArrayList<>();
        for (int i = 0; i < LAW.length(); i++) {
            if (chance(1, 2)) {
                said.law[i] = chance(style % 4, 4) ? 0 : random.nextInt(LAW_HIGHEST[i] + 1);
                items.add(random.nextInt(items.size() + 1), LAW.charAt(i) + blanks(blanks) + said.law[i] + blanks(blanks));
            }
        }
        return "l" + blanks(blanks) + String.join("", items);
    }

    /** Another TEXT, mostly a faulty one: bytes taken out, put in, exchanged, or its end cut off. */
    String spoilt(String text, String signs) {
        StringBuilder other = new StringBuilder(text);
        int times = 1 + random.nextInt(2);
        for (int n = 0; n < times && other.length() > 0; n++) {
            int at = random.nextInt(other.length());
            char sign = signs.charAt(random.nextInt(signs.length()));
            switch (random.nextInt(5)) {
                case 0:
                    other.deleteCharAt(at);
                    break;
                case 1:
                    other.insert(at, sign);
                    break;
                case 2:
                    other.setCharAt(at, sign);
                    break;
                case 3:
                    other.insert(at, other.charAt(random.nextInt(other.length())));
                    break;
                default:
                    other.setLength(at);
                    break;
            }
        }
        return other.toString();
    }

    SaidLiking liking(int size) {
        SaidLiking said = new SaidLiking();
        int many = 1 + random.nextInt(size);
        List<Truth> conditions = new ArrayList<>();
        List<Sum> sums = new ArrayList<>();
        StringBuilder text = new StringBuilder();
        boolean blanks = chance(1, 3);
        for (int n = 0; n < many; n++) {
            Truth condition = chance(2, 3) ? condition(0, blanks) : null;
            Sum sum = sum(0, blanks);
            conditions.add(condition);
            sums.add(sum);
            text.append(n > 0 ? ";" : "").append(blanks(blanks)).append('y').append(blanks(blanks)).append(':');
            text.append(condition != null ? condition.text() + "?" : "").append(sum.text());
        }
        said.text = text.toString();
        said.liking = values -> {
            for (int n = 0; n < sums.size(); n++) {
                if (conditions.get(n) == null || conditions.get(n).holds(values)) {
                    return (int) sums.get(n).of(values);
                }
            }
            return 0;
        };
        return said;
    }

    private interface Part {
        String text();
    }

    private interface Sum extends Part {
        long of(int[] values);
    }

    private interface Truth extends Part {
        boolean holds(int[] values);
    }

    private record SumOf(String text, java.util.function.ToLongFunction<int[]> how) implements Sum {
        public long of(int[] values) {
            return how.applyAsLong(values);
        }
    }

    private record TruthOf(String text, java.util.function.Predicate<int[]> how) implements Truth {
        public boolean holds(int[] values) {
            return how.test(values);
        }
    }

    private static long bound(long number) {
        return number > 1000000 ? 1000000 : number < -1000000 ? -1000000 : number;
    }

    private Truth condition(int depth, boolean blanks) {
        Truth first = truth(depth, blanks);
        if (!chance(1, 4)) {
            return first;
        }
        Truth second = condition(depth, blanks);
        return new TruthOf(first.text() + "|" + blanks(blanks) + second.text(), v -> first.holds(v) | second.holds(v));
    }

    private Truth truth(int depth, boolean blanks) {
        Truth first = unit(depth, blanks);
        if (!chance(1, 4)) {
            return first;
        }
        Truth second = truth(depth, blanks);
        return new TruthOf(first.text() + "&" + blanks(blanks) + second.text(), v -> first.holds(v) & second.holds(v));
    }

    private Truth unit(int depth, boolean blanks) {
        if (depth < 6 && chance(1, 5)) {
            Truth inner = unit(depth + 1, blanks);
            return new TruthOf(blanks(blanks) + "!" + inner.text(), v -> !inner.holds(v));
        }
        if (depth < 6 && chance(1, 5)) {
            Truth inner = condition(depth + 1, blanks);
            return new TruthOf(blanks(blanks) + "(" + inner.text() + ")" + blanks(blanks), inner::holds);
        }
        Sum left = sum(depth, blanks);
        Sum right = sum(depth, blanks);
        int which = random.nextInt(3);
        String text = left.text() + "=<>".charAt(which) + right.text();
        return new TruthOf(text, v -> {
            int way = Long.compare(left.of(v), right.of(v));
            return which == 0 ? way == 0 : which == 1 ? way < 0 : way > 0;
        });
    }

    private Sum sum(int depth, boolean blanks) {
        Sum sum = term(depth, blanks);
        for (int n = random.nextInt(3); n > 0; n--) {
            Sum left = sum;
            Sum right = term(depth, blanks);
            boolean plus = chance(1, 2);
            sum = new SumOf(left.text() + (plus ? "+" : "-") + right.text(),
                v -> bound(plus ? left.of(v) + right.of(v) : left.of(v) - right.of(v)));
        }
        return sum;
    }

    private Sum term(int depth, boolean blanks) {
        Sum term = atom(depth, blanks);
        for (int n = chance(1, 3) ? 1 + random.nextInt(3) : 0; n > 0; n--) {
            Sum left = term;
            Sum right = atom(depth, blanks);
            boolean times = chance(1, 2);
            term = new SumOf(left.text() + (times ? "*" : "/") + right.text(),
                v -> times ? bound(left.of(v) * right.of(v)) : right.of(v) == 0 ? 0 : left.of(v) / right.of(v));
        }
        return term;
    }

    private Sum atom(int depth, boolean blanks) {
        if (depth < 6 && chance(1, 7)) {
            Sum inner = sum(depth + 1, blanks);
            return new SumOf(blanks(blanks) + "[" + inner.text() + "]" + blanks(blanks), inner::of);
        }
        if (chance(1, 3)) {
            int number = chance(1, 3) ? random.nextInt(10000) : random.nextInt(12);
            String text = chance(1, 8) ? String.format("%04d", number) : "" + number;
            return new SumOf(blanks(blanks) + text + blanks(blanks), v -> number);
        }
        int letter = random.nextInt(7);
        return new SumOf(blanks(blanks) + "rchdwkl".charAt(letter) + blanks(blanks), v -> v[letter]);
    }
}
