import java.io.IOException;
import java.lang.reflect.Constructor;
import java.lang.reflect.Field;
import java.lang.reflect.Method;
import java.lang.reflect.Modifier;
import java.nio.file.Files;
import java.nio.file.Path;
import java.util.Arrays;
import java.util.List;
import java.util.Set;
import java.util.TreeSet;
import java.util.regex.Matcher;
import java.util.regex.Pattern;

/** What can be seen by a program of the rules in ../shared/LANGUAGE.md: the face, words that are not used, lengths. */
public final class LanguageTest {
    private static final Path SOURCE = Path.of("src/main/java/GiftMatch.java");
    private static final List<String> FACE = List.of(
        "int giver(int)", "int work(int)", "int worth(int,int,int,int)", "int set(int,int)", "int write(int,int)",
        "int erase(int)", "int fault(int)", "int give(int,int,int)", "int amount(int,int)", "int isShort()", "int has(int)",
        "int best(int,int)", "int rest(int)", "int turns()", "int good(int)", "int lost()", "int gain(int,int)",
        "int hand(int,int)", "int anyway(int)", "int breach(int,int,int)", "int image(int)", "int from(int)", "int count(int)",
        "long digest()");
    private static int wrong = 0;

    public static void main(String[] args) throws IOException {
        face();
        classesInside();
        List<String> lines = Files.readAllLines(SOURCE);
        words(String.join("\n", lines));
        lengths(lines);
        objectsMade(lines);
        System.out.println(wrong == 0 ? "the rules that can be seen are kept" : wrong + " rules are not kept");
        if (wrong != 0) {
            System.exit(1);
        }
    }

    private static void demand(boolean holds, String what) {
        if (!holds) {
            wrong++;
            System.out.println(what);
        }
    }

    private static void face() {
        demand(Modifier.isFinal(GiftMatch.class.getModifiers()), "the class is not final");
        Set<String> shown = new TreeSet<>();
        for (Method method : GiftMatch.class.getDeclaredMethods()) {
            String told = method.getReturnType() + " " + method.getName() + "("
                + String.join(",", Arrays.stream(method.getParameterTypes()).map(Class::getName).toList()) + ")";
            if (Modifier.isPrivate(method.getModifiers())) {
                demand(!isOfFace(method), "a private method bears a public name: " + told);
            } else {
                shown.add(told);
            }
        }
        demand(shown.equals(new TreeSet<>(FACE)), "the methods shown are " + shown);
        Set<String> constants = new TreeSet<>();
        for (Field field : GiftMatch.class.getDeclaredFields()) {
            if (!Modifier.isPrivate(field.getModifiers())) {
                constants.add(field.getName());
            }
        }
        demand(constants.equals(Set.of("NONE", "BAD", "NO", "FULL")), "the fields shown are " + constants);
        Constructor<?>[] constructors = GiftMatch.class.getDeclaredConstructors();
        demand(constructors.length == 1 && constructors[0].getParameterCount() == 0, "the constructors are others");
    }

    private static boolean isOfFace(Method method) {
        return FACE.stream().anyMatch(told -> told.contains(" " + method.getName() + "("));
    }

    private static void classesInside() {
        Class<?>[] inside = GiftMatch.class.getDeclaredClasses();
        demand(inside.length <= 11, "there are more than twelve classes");
        fields(GiftMatch.class);
        for (Class<?> own : inside) {
            demand(Modifier.isStatic(own.getModifiers()), own + " is not static");
            fields(own);
            for (Method method : own.getDeclaredMethods()) {
                demand(!isOfFace(method), own + " has a method of a public name: " + method.getName());
            }
        }
    }

    private static void fields(Class<?> own) {
        int count = 0;
        for (Field field : own.getDeclaredFields()) {
            boolean isStatic = Modifier.isStatic(field.getModifiers());
            count += isStatic ? 0 : 1;
            demand(!isStatic || Modifier.isFinal(field.getModifiers()), "a static field is not final: " + field);
        }
        demand(count <= 20, own + " has more than twenty fields");
        for (Method method : own.getDeclaredMethods()) {
            demand(method.getParameterCount() <= 7, "more than seven parameters: " + method);
        }
    }

    private static void words(String source) {
        String code = source.replaceAll("(?s)/\\*.*?\\*/", " ").replaceAll("//[^\n]*", " ").replaceAll("'.'", "0");
        Matcher refused = Pattern.compile("\\b(throw|throws|try|catch|finally|synchronized|assert|import|package|protected"
            + "|float|double|Object|Exception|Random|Thread|currentTimeMillis|nanoTime|\\w+Exact|hashCode|toString)\\b|->|::|\"")
            .matcher(code);
        while (refused.find()) {
            demand(false, "a word that is not used: " + refused.group());
        }
    }

    /** All calls of a run share one room, so only constructors and what fields begin with make objects. */
    private static void objectsMade(List<String> lines) {
        String method = "";
        String end = "";
        for (int i = 0; i < lines.size(); i++) {
            String line = lines.get(i);
            if (method.isEmpty() && line.matches(" {4,8}\\S.*\\) \\{") && !line.contains(" class ")) {
                method = line.strip();
                end = line.substring(0, line.indexOf(method)) + "}";
            } else if (line.equals(end)) {
                method = "";
            } else if (line.matches(".*(\\bnew\\b|\\.clone\\(|\\bcopyOf).*")) {
                boolean begins = method.isEmpty() && line.matches("\\s+(private )?final .* = new .*;");
                demand(begins || method.matches("(public )?[A-Z]\\w*\\(.*"), "line " + (i + 1) + " makes an object in a call");
            }
        }
    }

    private static void lengths(List<String> lines) {
        int start = -1;
        String end = "";
        for (int i = 0; i < lines.size(); i++) {
            String line = lines.get(i);
            demand(line.length() <= 130, "line " + (i + 1) + " is long");
            demand(!line.contains("\t") && line.chars().allMatch(c -> c < 128), "line " + (i + 1) + " has another sign");
            if (start < 0 && line.matches(" {4,8}\\S.*\\) \\{") && !line.contains(" class ")) {
                start = i;
                end = line.substring(0, line.length() - line.stripLeading().length()) + "}";
            } else if (start >= 0 && line.equals(end)) {
                demand(i - start < 60, "a method of more than 60 lines from line " + (start + 1));
                start = -1;
            }
        }
        demand(start < 0, "a method without an end");
    }
}
