import java.io.IOException;
import java.lang.reflect.Field;
import java.lang.reflect.Method;
import java.lang.reflect.Modifier;
import java.nio.file.Files;
import java.nio.file.Path;
import java.util.ArrayList;
import java.util.List;
import java.util.Set;
import java.util.TreeSet;
import java.util.regex.Matcher;
import java.util.regex.Pattern;

/** What of ../shared/LANGUAGE.md can be seen from the text and the class: the face, the words, the sizes. */
public final class LanguageTest {
    private static final String FACE = "letter(1) room(0) sleeper(2) clock(2) task(2) set(2) every(2) firm(1) bus(1) "
        + "tired(1) night(0) depth(2) up(1) presses(1) slept(1) done(2) value(1) cost(1) evening(2) often(2) hears(1) "
        + "silent(1) bet(1) leans(2) back(2) moment(3) week(3) row(1) judge(1) firms(2) clear(0) lots(3) image(0) on(0) "
        + "count(1)";
    private static final String[] FORBIDDEN = {"throw", "throws", "try", "catch", "finally", "synchronized", "assert",
        "import", "package", "Object", "Exception", "Error", "System\\.out", "Random", "Thread", "Supplier", "->", "::",
        "MAX_VALUE", "MIN_VALUE", "\\w+Exact", "yield", "var", "volatile", "transient", "native", "protected",
        "@\\w+", "\"\\s*\\+", "\\+\\s*\""};
    private static int wrong = 0;

    private static void must(boolean fine, String what) {
        if (!fine) {
            wrong++;
            System.out.println("LANGUAGE.md: " + what);
        }
    }

    public static void main(String[] args) throws IOException {
        String source = Files.readString(Path.of("src/main/java/NineMinutesMore.java"));
        String code = source.replaceAll("(?s)/\\*.*?\\*/", " ").replaceAll("//[^\n]*", " ");
        face();
        for (String word : FORBIDDEN) {
            Matcher m = Pattern.compile(word.matches("\\w+") ? "\\b" + word + "\\b" : word).matcher(code);
            must(!m.find(), "has " + word);
        }
        for (int i = 0; i < source.length(); i++) {
            must(source.charAt(i) < 128, "a sign above 127 at " + i);
        }
        shortMethods(code);
        System.out.println(wrong == 0 ? "LanguageTest: nothing against LANGUAGE.md" : wrong + " faults");
        if (wrong != 0) {
            System.exit(1);
        }
    }

    private static void face() {
        Class<?> c = NineMinutesMore.class;
        must(c.getModifiers() == (Modifier.PUBLIC | Modifier.FINAL), "rule 1: public final class");
        must(c.getDeclaredConstructors().length == 1 && c.getConstructors().length == 1, "rule 1: one constructor");
        Set<String> want = new TreeSet<>(List.of(FACE.split(" ")));
        Set<String> have = new TreeSet<>();
        Set<String> publicNames = new TreeSet<>();
        List<Method> others = new ArrayList<>();
        for (Method m : c.getDeclaredMethods()) {
            if (Modifier.isPublic(m.getModifiers())) {
                have.add(m.getName() + "(" + m.getParameterCount() + ")");
                publicNames.add(m.getName());
                must(m.getReturnType() == int.class, "rule 1: " + m.getName() + " answers no int");
            } else {
                others.add(m);
            }
        }
        must(have.equals(want), "rule 1: the face is " + have);
        List<Class<?>> inside = List.of(c.getDeclaredClasses());
        must(inside.size() < 12, "rule 11: classes");
        for (Class<?> n : inside) {
            int mods = n.getModifiers();
            must(Modifier.isStatic(mods) && !Modifier.isPublic(mods) && !Modifier.isProtected(mods), "rule 1: " + n);
            others.addAll(List.of(n.getDeclaredMethods()));
            fields(n);
        }
        fields(c);
        for (Method m : others) {
            must(!publicNames.contains(m.getName()), "rule 1: private " + m.getName());
            must(Modifier.isPrivate(m.getModifiers()), "rule 1: not private: " + m.getName());
            must(m.getParameterCount() <= 7, "rule 11: parameters of " + m.getName());
        }
    }

    private static void fields(Class<?> c) {
        int own = 0;
        for (Field f : c.getDeclaredFields()) {
            must(Modifier.isPrivate(f.getModifiers()), "rule 1: field " + f.getName());
            if (Modifier.isStatic(f.getModifiers())) {
                must(Modifier.isFinal(f.getModifiers()), "rule 5: static " + f.getName());
            } else {
                own++;
            }
        }
        must(own <= 20, "rule 11: fields of " + c.getSimpleName());
    }

    private static void shortMethods(String code) {
        Matcher m = Pattern.compile("(?m)^( {4}| {8})(public|private) [^;=\n]*\\([^;\n]*\\) \\{$").matcher(code);
        int seen = 0;
        while (m.find()) {
            seen++;
            int end = code.indexOf("\n" + m.group(1) + "}", m.start());
            long lines = code.substring(m.start(), end < 0 ? code.length() : end).lines().count();
            must(end >= 0 && lines <= 60, "rule 11: " + lines + " lines: " + m.group().trim());
        }
        must(seen > 60, "the methods are not found: " + seen);
    }
}
