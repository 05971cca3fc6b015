import java.io.IOException;
import java.lang.management.ManagementFactory;
import java.lang.reflect.Field;
import java.lang.reflect.InvocationTargetException;
import java.lang.reflect.Method;
import java.lang.reflect.Modifier;
import java.nio.charset.StandardCharsets;
import java.nio.file.Files;
import java.nio.file.Path;
import java.util.ArrayList;
import java.util.Arrays;
import java.util.Comparator;
import java.util.HashSet;
import java.util.List;
import java.util.NoSuchElementException;
import java.util.Random;
import java.util.Set;
import java.util.TreeSet;

/** The public face, the rules of LANGUAGE.md that can be seen from outside, and the room that dear runs take. */
public final class FaceTests {
    private static final String[] FACE = {
        "int feed(int, int, int, int, int)", "boolean end(int)", "int fault(int)", "int text(int)", "int square(int, int)",
        "int law(int)", "boolean change(int, int)", "boolean liking(int)", "int lay(int, int)", "int take(int)",
        "int turn(int, int)", "int undo()", "int cell(int)", "int broken(int)", "int first(int)", "int liked()",
        "int weighs(int)", "int mates(int)", "int layings(int)", "int best(int)", "int bars()", "int late(int, int, int)",
        "int twist(int)", "int patch(int, int)", "boolean bid(int, int, int)", "int won(int)", "int price(int)",
        "int lot(long)", "int one(long)", "int use(int, int)", "int ease()", "int mend(int)", "int seams()", "int dark(int)",
        "int hoard(int, int)", "int image()", "int back()", "int swaps()", "int count(int)"};
    /** Fields and elements that a run may make, by the task's page. */
    private static final long ROOM = 7300000;

    private final Checks c = new Checks("FaceTests");

    public static void main(String[] args) throws Exception {
        FaceTests t = new FaceTests();
        t.face();
        t.classesInside();
        t.source();
        t.nothingElseIsThrown();
        t.room();
        t.c.close();
    }

    private static String signature(Method method) {
        List<String> types = new ArrayList<>();
        for (Class<?> type : method.getParameterTypes()) {
            types.add(type.getName());
        }
        return method.getReturnType() + " " + method.getName() + "(" + String.join(", ", types) + ")";
    }

    private void face() throws Exception {
        Class<?> face = QuiltLaw.class;
        c.yes("public and final", Modifier.isPublic(face.getModifiers()) && Modifier.isFinal(face.getModifiers()));
        c.due("constructors", face.getDeclaredConstructors().length, 1);
        c.yes("public constructor", Modifier.isPublic(face.getConstructor().getModifiers()));
        Set<String> wanted = new TreeSet<>(Arrays.asList(FACE));
        for (Method method : face.getDeclaredMethods()) {
            if (!Modifier.isPrivate(method.getModifiers())) {
                c.yes("a method of the face: " + signature(method), wanted.remove(signature(method)));
                c.yes("public: " + method.getName(), Modifier.isPublic(method.getModifiers()) && !Modifier.isStatic(method.getModifiers()));
                boolean throwing = method.getName().equals("square");
                c.yes("throws: " + method.getName(), Arrays.equals(method.getExceptionTypes(),
                    throwing ? new Class<?>[] {NoSuchElementException.class} : new Class<?>[0]));
            }
        }
        c.due("methods that are missing: " + wanted, wanted.size(), 0);
        for (Field field : face.getDeclaredFields()) {
            boolean constant = field.getName().equals("NONE") || field.getName().equals("HIDDEN");
            c.yes("private, or a constant: " + field.getName(), Modifier.isPrivate(field.getModifiers()) != constant);
        }
        c.due("NONE", QuiltLaw.class.getField("NONE").getInt(null), -1);
        c.due("HIDDEN", QuiltLaw.class.getField("HIDDEN").getInt(null), -1000000);
    }

    private void classesInside() {
        Set<String> names = new HashSet<>();
        for (Method method : QuiltLaw.class.getMethods()) {
            names.add(method.getName());
        }
        List<Class<?>> all = new ArrayList<>(List.of(QuiltLaw.class));
        all.addAll(Arrays.asList(QuiltLaw.class.getDeclaredClasses()));
        c.yes("rule 11: some twelve classes", all.size() <= 12);
        for (Class<?> one : all) {
            int fields = 0;
            for (Field field : one.getDeclaredFields()) {
                boolean ofClass = Modifier.isStatic(field.getModifiers());
                fields += ofClass ? 0 : 1;
                c.yes("rule 5: final: " + field, !ofClass || Modifier.isFinal(field.getModifiers()));
            }
            c.yes("rule 11: some twenty fields: " + one, fields <= 20);
            for (Method method : one.getDeclaredMethods()) {
                c.yes("rule 11: seven parameters: " + method, method.getParameterCount() <= 7);
                boolean own = one != QuiltLaw.class || Modifier.isPrivate(method.getModifiers());
                c.no("rule 1: a name of the face: " + method, own && names.contains(method.getName()));
                boolean told = Arrays.asList("equals", "hashCode", "toString").contains(method.getName());
                c.no("rule 6: " + method, told);
            }
        }
    }

    private void source() throws IOException {
        String text = Files.readString(Path.of("src/main/java/QuiltLaw.java"), StandardCharsets.UTF_8);
        c.yes("rule 4: signs 1 to 127", text.chars().allMatch(sign -> sign >= 1 && sign <= 127));
        String code = text.replaceAll("(?s)/\\*.*?\\*/", "").replaceAll("//.*", "");
        String[] never = {"->", "::", "\\bfinally\\b", "\\bsynchronized\\b", "\\bassert\\b", "\\bcatch\\b", "\\bvar\\b", "\\btry\\b",
            "\\bSystem\\.(?!arraycopy)", "\\bpackage\\b", "\\bMath\\.\\w+Exact", "\\bprotected\\b", "@", "\\bObject\\b", "String\\[\\]",
            "\\bdouble\\b", "\\bfloat\\b", "\" *\\+", "\\+ *\""};
        for (String pattern : never) {
            c.no("not in the part of Java that is left: " + pattern, java.util.regex.Pattern.compile(pattern).matcher(code).find());
        }
        for (String line : code.split("\n")) {
            if (line.startsWith("import ")) {
                c.yes("rule 4: " + line, line.matches("import java\\.util\\.(Arrays|NoSuchElementException);"));
            }
        }
        int longest = 0;
        int lines = 0;
        for (String line : code.split("\n")) {
            lines = line.matches("( {4}){1,2}[^ ].*\\(.*\\{") ? 0 : lines + 1;
            longest = line.matches("( {4}){1,2}\\}") && lines < 1000 ? Math.max(longest, lines + 1) : longest;
            lines = line.matches("( {4}){1,2}\\}") ? 1000 : lines;
        }
        c.yes("rule 11: some sixty lines a method, not " + longest, longest > 20 && longest <= 60);
    }

    /** In all sorts of states and with all sorts of arguments nothing is thrown but what square promises. */
    private void nothingElseIsThrown() throws Exception {
        Random random = new Random(99);
        Texts texts = new Texts(random);
        Method[] methods = QuiltLaw.class.getDeclaredMethods();
        Arrays.sort(methods, Comparator.comparing(FaceTests::signature));
        for (int run = 0; run < 400; run++) {
            QuiltLaw x = new QuiltLaw();
            for (int call = 0; call < 300; call++) {
                if (call % 60 == 10) {
                    Checks.take(x, 0, texts.quilt(1 + random.nextInt(3), 1 + random.nextInt(3), 1 + random.nextInt(8), call).text);
                }
                Method method = methods[random.nextInt(methods.length)];
                if (!Modifier.isPublic(method.getModifiers())) {
                    continue;
                }
                Object[] args = arguments(random, method);
                try {
                    method.invoke(x, args);
                } catch (InvocationTargetException e) {
                    boolean due = method.getName().equals("square") && e.getCause() instanceof NoSuchElementException;
                    c.yes(method.getName() + Arrays.toString(args) + " threw " + e.getCause(), due);
                }
            }
        }
    }

    private static Object[] arguments(Random random, Method method) {
        Object[] args = new Object[method.getParameterCount()];
        for (int i = 0; i < args.length; i++) {
            long any = random.nextInt(3) > 0 ? random.nextInt(11) - 2 : random.nextLong() >> random.nextInt(64);
            if (method.getParameterTypes()[i] == long.class) {
                args[i] = any;
            } else {
                args[i] = (int) any;
            }
        }
        return args;
    }

    /** Bytes are measured; a field or an element has at least one, mostly four. */
    private void room() {
        com.sun.management.ThreadMXBean bean = (com.sun.management.ThreadMXBean) ManagementFactory.getThreadMXBean();
        String dear = "gr2c3;sh1;sh2;sh3;sh4;sh5;sh6;sh7;sh8;lw8";
        for (int kind = 0; kind < 4; kind++) {
            dearRun(kind, dear);
            long before = bean.getCurrentThreadAllocatedBytes();
            dearRun(kind, dear);
            long made = bean.getCurrentThreadAllocatedBytes() - before;
            c.yes("room of run " + kind + ": " + made + " bytes", made < ROOM);
        }
    }

    private static void dearRun(int kind, String dear) {
        QuiltLaw x = Checks.quilt(dear);
        Checks.take(x, 1, "y:r=1&!(h<d|w>2)?[[l+1]*d]-c;y:w*[h+d]/3");
        x.liking(0);
        for (int call = 0; call < 512; call++) {
            if (kind == 0) {
                x = call % 4 == 0 ? new QuiltLaw() : x;
                x.feed(0x73000000, 0, 0, 0, 0);
                x.text(0);
            } else if (kind == 1) {
                x.feed(0x67723163, 0x323b733b, 0x73683100, 0, 0);
                x.text(0);
                x.lot(call);
            } else if (kind == 2) {
                x.change(2, call % 9);
                x.layings(call);
                x.best(1);
                x.late(0, 0, 1);
                x.bars();
            } else {
                x.turn(call % 8, call / 8 % 4);
                x.mend(0);
                x.ease();
                x.twist(0);
                x.won(0);
                x.dark(0);
                x.patch(0, 0);
            }
        }
    }
}
