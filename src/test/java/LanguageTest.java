import java.io.IOException;
import java.lang.reflect.Constructor;
import java.lang.reflect.Field;
import java.lang.reflect.Method;
import java.lang.reflect.Modifier;
import java.nio.charset.StandardCharsets;
import java.nio.file.Files;
import java.nio.file.Path;
import java.util.Arrays;
import java.util.Set;
import java.util.TreeSet;
import java.util.regex.Matcher;
import java.util.regex.Pattern;

/** What of LANGUAGE.md and of the document's face can be seen from the source and the class itself. */
public final class LanguageTest {
    private static final String SOURCE = "src/main/java/LastChange.java";

    private static final String FACE = "constructor()\n"
            + "feed(int, int, int, int, int): int\n"
            + "game(int): int throws IllegalArgumentException\n"
            + "fault(): int\n"
            + "count(int): int throws NoSuchElementException\n"
            + "team(int, int): int throws NoSuchElementException\n"
            + "unit(int, int, int): int throws NoSuchElementException\n"
            + "chance(int, int, int): int throws NoSuchElementException\n"
            + "meeting(int, int): int throws NoSuchElementException\n"
            + "rested(int, int): int throws NoSuchElementException\n"
            + "value(int): int throws IllegalArgumentException\n"
            + "first(int): int throws IllegalArgumentException\n"
            + "reply(int, int): int throws NoSuchElementException, IllegalArgumentException\n"
            + "by(int, int, int): int throws NoSuchElementException, IllegalArgumentException\n"
            + "best(int, int, int): int throws NoSuchElementException, IllegalArgumentException\n"
            + "cost(int, int, int): int throws NoSuchElementException, IllegalArgumentException\n"
            + "seeing(int): int throws IllegalArgumentException\n"
            + "blind(int, int): int throws NoSuchElementException, IllegalArgumentException\n"
            + "rotation(int, int, int): int throws NoSuchElementException, IllegalArgumentException\n"
            + "given(int): int throws NoSuchElementException\n"
            + "odds(int, int, int, int): int throws NoSuchElementException, IllegalArgumentException\n"
            + "when(int, int, int): int throws NoSuchElementException, IllegalArgumentException\n"
            + "turn(int, int): int\n"
            + "play(int, int, int, int): int throws IllegalArgumentException\n"
            + "games(int, int, int, int, int, int): int throws NoSuchElementException, IllegalArgumentException\n"
            + "set(int, int, int): int throws NoSuchElementException, IllegalArgumentException\n"
            + "see(int): int throws NoSuchElementException\n"
            + "lasts(int, int, boolean): int throws NoSuchElementException\n"
            + "say(): int\n"
            + "said(int): int\n"
            + "undo(): int\n"
            + "image(): void\n"
            + "back(): boolean\n"
            + "NONE: int\n"
            + "HIDDEN: int";

    private static int wrong = 0;

    private static void complain(String what) {
        wrong++;
        System.out.println("LANGUAGE: " + what);
    }

    private static String names(Class<?>[] types) {
        StringBuilder b = new StringBuilder();
        for (Class<?> type : types) b.append(b.length() > 0 ? ", " : "").append(type.getSimpleName());
        return b.toString();
    }

    private static void face() {
        Set<String> due = new TreeSet<>(Arrays.asList(FACE.split("\n")));
        Set<String> got = new TreeSet<>();
        Set<String> publicNames = new TreeSet<>();
        for (Constructor<?> c : LastChange.class.getDeclaredConstructors()) got.add("constructor(" + names(c.getParameterTypes()) + ")");
        for (Method m : LastChange.class.getDeclaredMethods()) {
            if (Modifier.isPrivate(m.getModifiers())) continue;
            publicNames.add(m.getName());
            String thrown = names(m.getExceptionTypes());
            got.add(m.getName() + "(" + names(m.getParameterTypes()) + "): " + m.getReturnType().getSimpleName()
                    + (thrown.isEmpty() ? "" : " throws " + thrown));
            if (!Modifier.isPublic(m.getModifiers())) complain("rule 1: " + m);
        }
        for (Field f : LastChange.class.getDeclaredFields()) {
            if (Modifier.isPrivate(f.getModifiers())) continue;
            got.add(f.getName() + ": " + f.getType().getSimpleName());
            if (!Modifier.isPublic(f.getModifiers())) complain("rule 1: " + f);
        }
        if (!got.equals(due)) complain("rule 1: the face is " + got + ", due is " + due);
        if (!Modifier.isFinal(LastChange.class.getModifiers())) complain("rule 1: the class isn't final");
        classes(publicNames);
    }

    private static void classes(Set<String> publicNames) {
        Class<?>[] inside = LastChange.class.getDeclaredClasses();
        if (inside.length + 1 > 12) complain("rule 11: " + (inside.length + 1) + " classes");
        for (Class<?> c : inside) {
            if (!Modifier.isPrivate(c.getModifiers()) || !Modifier.isStatic(c.getModifiers())) complain("rule 1: " + c);
            for (Method m : c.getDeclaredMethods()) if (publicNames.contains(m.getName())) complain("rule 1: a second " + m);
            own(c);
        }
        for (Method m : LastChange.class.getDeclaredMethods()) {
            if (Modifier.isPrivate(m.getModifiers()) && publicNames.contains(m.getName())) complain("rule 1: a second " + m);
        }
        own(LastChange.class);
    }

    private static void own(Class<?> c) {
        int fields = 0;
        for (Field f : c.getDeclaredFields()) {
            if (!Modifier.isStatic(f.getModifiers())) fields++;
            else if (!Modifier.isFinal(f.getModifiers())) complain("rule 5: " + f);
        }
        if (fields > 20) complain("rule 11: " + fields + " fields of " + c);
        for (Method m : c.getDeclaredMethods()) if (m.getParameterCount() > 7) complain("rule 11: " + m);
    }

    private static void source() throws IOException {
        byte[] bytes = Files.readAllBytes(Path.of(SOURCE));
        for (byte b : bytes) if (b < 1) { complain("rule 4: a sign beyond 127"); break; }
        String text = new String(bytes, StandardCharsets.UTF_8);
        String code = text.replaceAll("(?s)/\\*.*?\\*/", "").replaceAll("//[^\n]*", "").replaceAll("\"[^\"\n]*\"", "\"\"");
        String[] banned = {"->", "::", "\\btry\\b", "\\bcatch\\b", "\\bfinally\\b", "\\bsynchronized\\b", "\\bassert\\b",
            "\\bsystem\\.(?!arraycopy)", "\\bSystem\\.(?!arraycopy)", "Exact\\b", "\\.equals\\(", "hashCode", "toString", "getClass",
            "\\bvolatile\\b", "\\bnative\\b", "\\bpackage\\b", "\\bstatic \\{", "\\bvar\\b", "\\bThread\\b", "\\bRandom\\b",
            "while \\(true\\)", "for \\(;;\\)", "\\binstanceof\\b", "@[A-Za-z]"};
        for (String b : banned) if (Pattern.compile(b).matcher(code).find()) complain("what may not stand there: " + b);
        Matcher imports = Pattern.compile("import ([^;]+);").matcher(code);
        while (imports.find()) if (!imports.group(1).equals("java.util.NoSuchElementException")) complain("import " + imports.group(1));
        Matcher thrown = Pattern.compile("throw ([^;]*);").matcher(code);
        while (thrown.find()) {
            if (!thrown.group(1).matches("new (NoSuchElementException|IllegalArgumentException)\\(\\)")) complain("rule 6: " + thrown.group());
        }
        lines(code);
    }

    /** Rows are made with the object and used again: no method makes any, so no run can fill the room. */
    private static void lines(String code) {
        boolean inConstructor = false;
        int length = 0;
        for (String line : code.split("\n")) {
            if (line.matches(" {4}public LastChange\\(\\) \\{| {8}[A-Z]\\w*\\([^)]*\\) \\{")) inConstructor = true;
            if (line.matches(" {4}\\}| {8}\\}")) {
                if (length > 60) complain("rule 11: a method of " + length + " lines");
                inConstructor = false;
                length = 0;
            }
            length = line.matches(" {4,8}\\S.*\\) (throws [^{]*)?\\{") ? 1 : length + 1;
            if (!line.contains("new ") || line.contains("throw new ") || inConstructor) continue;
            if (!line.matches("\\s+(private )?final .* = new .*;")) complain("rule 12: " + line.trim());
        }
    }

    public static void main(String[] args) throws IOException {
        face();
        source();
        System.out.println("LanguageTest: " + wrong + " wrong");
        if (wrong > 0) System.exit(1);
    }
}
