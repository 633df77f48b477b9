import java.io.IOException;
import java.lang.reflect.Field;
import java.lang.reflect.Method;
import java.lang.reflect.Modifier;
import java.nio.file.Files;
import java.nio.file.Path;
import java.util.Arrays;
import java.util.HashSet;
import java.util.List;
import java.util.Set;
import java.util.TreeSet;
import java.util.regex.Matcher;
import java.util.regex.Pattern;

/**
 * What of LANGUAGE.md a machine can see at a glance: the face, the members, and
 * words that must not stand in the file. Runs in the project's folder.
 */
public final class LanguageRules {
    private static int wrong = 0;

    private static void check(boolean holds, String what) {
        if (!holds) {
            wrong++;
            System.out.println(what);
        }
    }

    private static final List<String> FACE = List.of("type(int)", "clear()", "variable(int)", "begins()", "key(int)",
        "rubs()", "nexts()", "prevs()", "picks(int)", "ends()", "caret(int)", "cuts(int,int)", "at(int)", "count(int)",
        "stop(int,int)", "held(int,int)", "choice(int,int,int)", "occurrence(int,int,int)", "unlike()",
        "variableAt(int,int)", "back()", "told(int)", "digest()");

    private static void face() {
        Class<?> face = SnippetStops.class;
        check(Modifier.isPublic(face.getModifiers()) && Modifier.isFinal(face.getModifiers()), "rule 1: public final class");
        Set<String> found = new TreeSet<>();
        Set<String> names = new HashSet<>();
        for (Method m : face.getDeclaredMethods()) {
            if (!Modifier.isPrivate(m.getModifiers())) {
                String types = Arrays.toString(m.getParameterTypes()).replaceAll("[\\[\\] ]", "");
                found.add(m.getName() + "(" + types + ")");
                names.add(m.getName());
                check(m.getReturnType() == (m.getName().equals("digest") ? long.class : int.class), "face: type of " + m);
            }
        }
        check(found.equals(new TreeSet<>(FACE)), "rule 1: the face is " + found);
        check(face.getConstructors().length == 1 && face.getDeclaredConstructors().length == 1, "rule 1: one constructor");
        Set<String> constants = new TreeSet<>();
        for (Field f : face.getDeclaredFields()) {
            if (!Modifier.isPrivate(f.getModifiers())) {
                constants.add(f.getName());
            }
        }
        check(constants.equals(new TreeSet<>(List.of("NONE", "BAD", "NO", "FULL", "ENDED"))), "rule 1: constants " + constants);
        members(face, names);
        check(face.getDeclaredClasses().length <= 11, "rule 11: classes");
        for (Class<?> c : face.getDeclaredClasses()) {
            check(Modifier.isStatic(c.getModifiers()), "rule 2: static " + c);
            members(c, names);
        }
    }

    private static void members(Class<?> c, Set<String> publicNames) {
        int fields = 0;
        for (Field f : c.getDeclaredFields()) {
            if (Modifier.isStatic(f.getModifiers())) {
                check(Modifier.isFinal(f.getModifiers()), "rule 5: final " + f);
            } else {
                fields++;
            }
        }
        check(fields <= 20, "rule 11: fields of " + c);
        for (Method m : c.getDeclaredMethods()) {
            check(m.getParameterCount() <= 7, "rule 11: parameters of " + m);
            check(!Modifier.isPrivate(m.getModifiers()) || !publicNames.contains(m.getName()), "rule 1: name of " + m);
        }
    }

    private static void words(String code) {
        String[] never = {"throw", "throws", "try", "catch", "finally", "synchronized", "assert", "import", "package",
            "volatile", "transient", "native", "var", "goto", "Object", "hashCode", "toString", "getClass", "Thread", "Random",
            "double", "float"};
        for (String word : never) {
            check(!Pattern.compile("\\b" + word + "\\b").matcher(code).find(), "the word " + word);
        }
        check(!code.contains("->") && !code.contains("::"), "rule 2: no lambda, no method reference");
        check(!code.contains("@"), "no annotations");
        check(!Pattern.compile("static\\s*\\{").matcher(code).find(), "rule 5: static block");
        Matcher system = Pattern.compile("\\b(System|Math|Integer|Long|Arrays)\\.(\\w+)").matcher(code);
        while (system.find()) {
            check(Set.of("arraycopy", "max", "min").contains(system.group(2)), "rule 4: " + system.group());
        }
    }

    private static void lengths(String source) {
        int begin = 0;
        int number = 0;
        for (String line : source.split("\n", -1)) {
            number++;
            check(line.length() <= 120, "line " + number + " is long");
            if (line.matches("( {4}| {8})[a-zA-Z].*\\) \\{")) {
                begin = number;
            }
            if (line.matches("( {4}| {8})\\}")) {
                check(begin == 0 || number - begin <= 60, "rule 11: the method at line " + begin + " is long");
                begin = 0;
            }
        }
    }

    public static void main(String[] args) throws IOException {
        String source = Files.readString(Path.of("src/main/java/SnippetStops.java"));
        check(source.chars().allMatch(c -> c < 128), "signs 1 to 127");
        face();
        words(source.replaceAll("(?s)/\\*.*?\\*/", " ").replaceAll("//[^\n]*", " "));
        lengths(source);
        System.out.println(wrong == 0 ? "the rules that can be seen hold" : wrong + " rules are broken");
        if (wrong != 0) {
            System.exit(1);
        }
    }
}
