import java.io.IOException;
import java.lang.reflect.Constructor;
import java.lang.reflect.Field;
import java.lang.reflect.Method;
import java.lang.reflect.Modifier;
import java.nio.file.Files;
import java.nio.file.Path;
import java.util.List;
import java.util.Set;
import java.util.TreeSet;
import java.util.regex.Matcher;
import java.util.regex.Pattern;

/** Some of the rules of LANGUAGE.md that can be seen from outside: the face, banned words, lengths. */
public final class RulesTest {
    private static final Path PROGRAM = Path.of("src/main/java/MillTalk.java");
    private static final String[] BANNED = {
        "\\bthrow\\b", "\\bthrows\\b", "\\btry\\b", "\\bcatch\\b", "\\bsynchronized\\b", "\\bassert\\b", "->", "::",
        "\\bprotected\\b", "static \\{", "Exact\\(", "\\bpackage\\b", "\\bThread\\b", "\\bRandom\\b", "currentTime"};
    private static final Check check = new Check();

    public static void main(String[] args) throws IOException {
        String code = Files.readString(PROGRAM).replaceAll("(?s)/\\*.*?\\*/", "").replaceAll("//[^\n]*", "");
        for (String word : BANNED) {
            check.due("places with " + word, Pattern.compile(word).matcher(code).results().count(), 0);
        }
        imports(code);
        face();
        noPrivateNameOfThePublicOnes();
        fields(MillTalk.class);
        for (Class<?> inside : MillTalk.class.getDeclaredClasses()) {
            fields(inside);
        }
        lengths(code);
        check.end();
    }

    private static void imports(String code) {
        Matcher m = Pattern.compile("import ([^;]+);").matcher(code);
        while (m.find()) {
            check.due("import " + m.group(1), List.of("java.util.Arrays").contains(m.group(1)) ? 1 : 0, 1);
        }
    }

    /** The members that are not private are just the document's. */
    private static void face() throws IOException {
        String document = Files.readString(Path.of("../shared/DOC.md"));
        String part = document.substring(document.indexOf("```java"), document.indexOf("## Terms"));
        Set<String> told = new TreeSet<>(List.of("NONE", "BAD", "STATE", "FULL", "MillTalk/0"));
        Matcher m = Pattern.compile("public (int|long) (\\w+)\\(([^)]*)\\)").matcher(part);
        while (m.find()) {
            int parameters = m.group(3).isBlank() ? 0 : m.group(3).split(",").length;
            told.add(m.group(1) + " " + m.group(2) + "/" + parameters);
        }
        Set<String> there = new TreeSet<>();
        for (Field f : MillTalk.class.getDeclaredFields()) {
            if (!Modifier.isPrivate(f.getModifiers())) {
                there.add(f.getName());
            }
        }
        for (Constructor<?> c : MillTalk.class.getDeclaredConstructors()) {
            there.add("MillTalk/" + c.getParameterCount());
        }
        for (Method method : MillTalk.class.getDeclaredMethods()) {
            if (!Modifier.isPrivate(method.getModifiers())) {
                there.add(method.getReturnType() + " " + method.getName() + "/" + method.getParameterCount());
            }
        }
        if (!there.equals(told)) {
            System.out.println("face: " + there + "\ntold: " + told);
        }
        check.due("the face is as told", there.equals(told) ? 1 : 0, 1);
        check.due("final", Modifier.isFinal(MillTalk.class.getModifiers()) ? 1 : 0, 1);
    }

    private static void noPrivateNameOfThePublicOnes() {
        Set<String> names = new TreeSet<>();
        for (Method m : MillTalk.class.getDeclaredMethods()) {
            if (Modifier.isPublic(m.getModifiers())) {
                names.add(m.getName());
            }
        }
        for (Method m : MillTalk.class.getDeclaredMethods()) {
            if (!Modifier.isPublic(m.getModifiers())) {
                check.due("private " + m.getName(), names.contains(m.getName()) ? 1 : 0, 0);
            }
        }
        Class<?>[] inside = MillTalk.class.getDeclaredClasses();
        check.due("twelve classes at most", inside.length <= 11 ? 1 : 0, 1);
        for (Class<?> c : inside) {
            check.due(c + " is static", Modifier.isStatic(c.getModifiers()) ? 1 : 0, 1);
            for (Method m : c.getDeclaredMethods()) {
                check.due(c + " " + m.getName(), names.contains(m.getName()) ? 1 : 0, 0);
                check.due(c + " " + m.getName() + " parameters", m.getParameterCount() <= 7 ? 1 : 0, 1);
            }
        }
    }

    /** What is static is final, a number or a row of numbers; of the others a class has some twenty. */
    private static void fields(Class<?> c) {
        int own = 0;
        for (Field f : c.getDeclaredFields()) {
            if (Modifier.isStatic(f.getModifiers())) {
                check.due(f + " is final", Modifier.isFinal(f.getModifiers()) ? 1 : 0, 1);
                check.due(f + " is a constant", Set.of(int.class, int[].class).contains(f.getType()) ? 1 : 0, 1);
            } else {
                own++;
            }
        }
        check.due(c + " fields", own <= 20 ? 1 : 0, 1);
    }

    /** A method begins with a line that ends in ") {" at a depth of one or two, and ends where its brace does. */
    private static void lengths(String code) {
        String[] lines = code.split("\n");
        for (int i = 0; i < lines.length; i++) {
            Matcher m = Pattern.compile("^( {4}| {8})(\\w.*)\\) \\{$").matcher(lines[i]);
            if (m.find() && !m.group(2).matches("(if|for|while|switch).*")) {
                int end = i + 1;
                while (end < lines.length && !lines[end].equals(m.group(1) + "}")) {
                    end++;
                }
                check.due(lines[i].trim() + " lines", end - i < 60 ? 1 : 0, 1);
            }
        }
    }
}
