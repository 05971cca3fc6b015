import java.io.IOException;
import java.lang.reflect.InvocationTargetException;
import java.lang.reflect.Method;
import java.net.URL;
import java.net.URLClassLoader;
import java.nio.charset.StandardCharsets;
import java.nio.file.Files;
import java.nio.file.Path;
import java.util.List;
import java.util.NoSuchElementException;
import java.util.regex.Matcher;
import java.util.regex.Pattern;
import java.util.stream.Collectors;
import java.util.stream.Stream;

/** README.md: the calls that it shows answer as it says, its feed feeds, it names every call of the face and every test. */
public final class ReadmeTests {
    private static final Pattern CALL =
        Pattern.compile("x\\.(\\w+)\\(([^)]*)\\); +// (-?\\d+|true|false|NoSuchElementException)(?![\\w.]).*");
    private static final Pattern TEXT = Pattern.compile("// (\\S*[:;]\\S*)");
    private static final Pattern FEED = Pattern.compile("(?ms)^```java\n(static void feed.*?)^```");

    private final Checks c = new Checks("ReadmeTests");
    private QuiltLaw x;
    private String text = "";
    private String fed = "";

    public static void main(String[] args) throws Exception {
        ReadmeTests t = new ReadmeTests();
        String page = Files.readString(Path.of("README.md"), StandardCharsets.UTF_8);
        t.example(page.split("\n"));
        t.feeds(page);
        t.namesAll(page);
        t.c.close();
    }

    private void example(String[] lines) throws Exception {
        int calls = 0;
        for (String line : lines) {
            Matcher call = CALL.matcher(line);
            Matcher said = TEXT.matcher(line);
            if (line.equals("QuiltLaw x = new QuiltLaw();")) {
                x = new QuiltLaw();
            } else if (said.matches()) {
                text = said.group(1);
                fed = "";
            } else if (call.matches()) {
                String[] told = call.group(2).isEmpty() ? new String[0] : call.group(2).split(", *");
                String got = answer(call.group(1), told);
                c.yes(line + " answered " + got, got.equals(call.group(3)));
                calls++;
            } else {
                c.no("a call without its answer: " + line, line.startsWith("x."));
            }
        }
        c.yes("calls are shown", calls > 30);
    }

    private String answer(String name, String[] told) throws Exception {
        if (name.equals("text")) {
            c.yes("what was fed is '" + text + "', not '" + fed + "'", fed.equals(text));
        }
        Method method = methodOf(name);
        Object[] args = new Object[told.length];
        for (int i = 0; i < told.length; i++) {
            long number = Long.decode(told[i]);
            fed += name.equals("feed") ? signs(number) : "";
            args[i] = method.getParameterTypes()[i] == long.class ? (Object) number : (Object) (int) number;
        }
        try {
            return String.valueOf(method.invoke(x, args));
        } catch (InvocationTargetException e) {
            return e.getCause() instanceof NoSuchElementException ? "NoSuchElementException" : e.getCause().toString();
        }
    }

    private static String signs(long number) {
        String signs = "";
        for (int shift = 24; shift >= 0; shift -= 8) {
            int sign = (int) (number >> shift) & 255;
            signs += sign == 0 ? "" : String.valueOf((char) sign);
        }
        return signs;
    }

    private static Method methodOf(String name) throws NoSuchMethodException {
        for (Method method : QuiltLaw.class.getMethods()) {
            if (method.getDeclaringClass() == QuiltLaw.class && method.getName().equals(name)) {
                return method;
            }
        }
        throw new NoSuchMethodException(name);
    }

    /** The page's own feed, built and used. */
    private void feeds(String page) throws Exception {
        Matcher shown = FEED.matcher(page);
        if (!shown.find()) {
            c.yes("a feed is shown", false);
            return;
        }
        Path folder = Files.createTempDirectory("readme");
        Path source = folder.resolve("Shown.java");
        Files.writeString(source, "public final class Shown { public " + shown.group(1) + "}", StandardCharsets.UTF_8);
        String built = System.getProperty("java.class.path");
        Process javac = new ProcessBuilder("javac", "-cp", built, "-d", folder.toString(), source.toString()).inheritIO().start();
        c.due("the feed that is shown can be built", javac.waitFor(), 0);
        try (URLClassLoader loader = new URLClassLoader(new URL[] {folder.toUri().toURL()})) {
            Method feed = loader.loadClass("Shown").getMethod("feed", QuiltLaw.class, String.class);
            for (String some : new String[] {"", "s", "gr1c2;sh1d2w3k2;sh2", "gr1c2;sh1d2w3k2l4;sh", "gr1c2;sh1d2w3k2l4;sh9"}) {
                asMine(feed, some);
            }
            asMine(feed, "s h 1 d 2 w 3 k 2 l 4 e 1 2 3 4;".repeat(5));
        }
        delete(folder);
    }

    private void asMine(Method feed, String some) throws Exception {
        QuiltLaw one = new QuiltLaw();
        QuiltLaw other = new QuiltLaw();
        feed.invoke(null, one, some);
        Checks.feed(other, some);
        c.due("bytes of '" + some + "'", one.count(4), some.length());
        c.due("FAULT of '" + some + "'", one.fault(0), other.fault(0));
        c.due("SQUARES of '" + some + "'", one.text(0), other.text(0));
    }

    private static void delete(Path folder) throws IOException {
        List<Path> files;
        try (Stream<Path> all = Files.list(folder)) {
            files = all.collect(Collectors.toList());
        }
        for (Path file : files) {
            Files.delete(file);
        }
        Files.delete(folder);
    }

    private void namesAll(String page) throws IOException {
        for (Method method : QuiltLaw.class.getMethods()) {
            if (method.getDeclaringClass() == QuiltLaw.class) {
                c.yes("the page names " + method.getName(), page.contains("`" + method.getName() + "`"));
            }
        }
        try (Stream<Path> all = Files.list(Path.of("src/test/java"))) {
            for (Path file : all.collect(Collectors.toList())) {
                String name = file.getFileName().toString().replace(".java", "");
                c.yes("the page names " + name, !name.endsWith("Tests") || page.contains("`" + name + "`"));
            }
        }
        c.yes("the page says how tests are run", page.contains("    .ci/run"));
    }
}
