import java.io.IOException;
import java.lang.reflect.Method;
import java.lang.reflect.Modifier;
import java.nio.file.Files;
import java.nio.file.Path;
import java.util.Arrays;
import java.util.List;
import java.util.Set;
import java.util.TreeSet;
import java.util.regex.Matcher;
import java.util.regex.Pattern;
import java.util.stream.Stream;

/** The calls that README.md shows answer what stands behind them; it shows every call and names every test. */
public final class ReadmeTest {
    private static final Path README = Path.of("README.md");
    private static final Path TESTS = Path.of("src/test/java");
    private static final Pattern CALL = Pattern.compile("x\\.(\\w+)\\((.*)\\); +// (-?\\d+)( .*)?");
    private static final String MAKING = "GiftMatch x = new GiftMatch();";
    private static int wrong = 0;

    public static void main(String[] args) throws IOException, ReflectiveOperationException {
        String readme = Files.readString(README);
        callsDue(readme.lines().toList());
        testsNamed(readme);
        System.out.println(wrong == 0 ? "README.md tells what is so" : wrong + " things are not as README.md tells");
        if (wrong != 0) {
            System.exit(1);
        }
    }

    private static void demand(boolean holds, String what) {
        if (!holds) {
            wrong++;
            System.out.println(what);
        }
    }

    private static void callsDue(List<String> lines) throws ReflectiveOperationException {
        int start = lines.indexOf("```java");
        int end = start + 1 + lines.subList(start + 1, lines.size()).indexOf("```");
        demand(start >= 0 && end > start, "README.md shows no use");
        GiftMatch x = new GiftMatch();
        Set<String> shown = new TreeSet<>();
        for (String line : lines.subList(start + 1, end)) {
            Matcher call = CALL.matcher(line);
            if (call.matches()) {
                shown.add(call.group(1));
                long got = answer(x, call.group(1), call.group(2));
                demand(got == Long.parseLong(call.group(3)), "it answers " + got + ": " + line);
            } else {
                demand(line.isEmpty() || line.equals(MAKING), "a line that is not understood: " + line);
            }
        }
        for (Method method : GiftMatch.class.getDeclaredMethods()) {
            boolean isPublic = Modifier.isPublic(method.getModifiers());
            demand(!isPublic || shown.contains(method.getName()), "README.md does not show " + method.getName());
        }
    }

    private static long answer(GiftMatch x, String name, String told) throws ReflectiveOperationException {
        Object[] numbers = told.isEmpty() ? new Object[0] : Arrays.stream(told.split(", ")).map(ReadmeTest::number).toArray();
        Class<?>[] types = new Class<?>[numbers.length];
        Arrays.fill(types, int.class);
        return ((Number) GiftMatch.class.getMethod(name, types).invoke(x, numbers)).longValue();
    }

    private static Object number(String told) {
        if (told.equals("GiftMatch.NONE")) {
            return GiftMatch.NONE;
        }
        return told.startsWith("'") ? told.charAt(1) : Integer.parseInt(told);
    }

    private static void testsNamed(String readme) throws IOException {
        try (Stream<Path> files = Files.list(TESTS)) {
            for (Path file : files.toList()) {
                String name = file.getFileName().toString().replace(".java", "");
                demand(readme.contains("`" + name + "`"), "README.md does not name " + name);
            }
        }
    }
}
