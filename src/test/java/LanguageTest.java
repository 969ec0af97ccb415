import java.lang.reflect.Constructor;
import java.lang.reflect.Field;
import java.lang.reflect.Member;
import java.lang.reflect.Method;
import java.lang.reflect.Modifier;
import java.nio.file.Files;
import java.nio.file.Path;
import java.util.ArrayList;
import java.util.Collections;
import java.util.List;
import java.util.Set;
import java.util.TreeSet;
import java.util.regex.Matcher;
import java.util.regex.Pattern;

/** The face is the document's, and the source keeps to the rules that can be seen from outside. Run from the project's root. */
public final class LanguageTest {
    private static final Check CHECK = new Check("LanguageTest");
    private static final Path SOURCE = Path.of("src/main/java/BargainHall.java");
    private static final Path DOCUMENT = Path.of("../shared/DOC.md");
    private static final String[] REFUSED_WORDS = {
        "throw", "throws", "try", "catch", "synchronized", "assert", "import", "package", "protected", "hashCode", "toString",
        "volatile", "transient", "native", "yield", "System\\.", "Object", "->", "::", "Exact\\("};

    public static void main(String[] args) throws Exception {
        String source = Files.readString(SOURCE);
        face();
        insideClasses();
        words(source);
        makings(source);
        lengths(source);
        constants();
        CHECK.finish();
    }

    /** A member of the face as the document writes it, without names of parameters. */
    private static String told(String name, Class<?> answer, Class<?>[] given) {
        List<String> kinds = new ArrayList<>();
        for (Class<?> kind : given) {
            kinds.add(kind.getSimpleName());
        }
        return (answer == null ? "" : answer.getSimpleName() + " ") + name + kinds;
    }

    private static Set<String> documentFace() throws Exception {
        Set<String> face = new TreeSet<>();
        Matcher m = Pattern.compile("public (?:(int|long) )?(\\w+)\\(([^)]*)\\);").matcher(Files.readString(DOCUMENT));
        while (m.find()) {
            List<String> kinds = new ArrayList<>();
            for (String parameter : m.group(3).isEmpty() ? new String[0] : m.group(3).split(", ")) {
                kinds.add(parameter.split(" ")[0]);
            }
            face.add((m.group(1) == null ? "" : m.group(1) + " ") + m.group(2) + kinds);
        }
        return face;
    }

    private static void face() throws Exception {
        Set<String> ours = new TreeSet<>();
        for (Constructor<?> c : BargainHall.class.getDeclaredConstructors()) {
            ours.add(told("BargainHall", null, c.getParameterTypes()));
        }
        for (Method m : BargainHall.class.getDeclaredMethods()) {
            if (!Modifier.isPrivate(m.getModifiers())) {
                CHECK.holds(m.getName() + " is public", Modifier.isPublic(m.getModifiers()) && !Modifier.isStatic(m.getModifiers()));
                ours.add(told(m.getName(), m.getReturnType(), m.getParameterTypes()));
            }
        }
        Set<String> wanted = documentFace();
        CHECK.due("members of the document's face", wanted.size(), 45);
        if (!ours.equals(wanted)) {
            System.out.println("ours: " + ours + "\nthe document's: " + wanted);
        }
        CHECK.holds("the face is the document's", ours.equals(wanted));
        CHECK.holds("public and final", Modifier.isPublic(BargainHall.class.getModifiers()) && Modifier.isFinal(BargainHall.class.getModifiers()));
    }

    private static void constants() throws Exception {
        String[] names = {"BAD", "NOT", "FULL", "NONE", "NULL", "CAST", "INDEX", "SIZE"};
        int[] values = {-1, -2, -3, -4, -11, -12, -13, -14};
        Set<String> open = new TreeSet<>();
        for (Field f : BargainHall.class.getDeclaredFields()) {
            if (!Modifier.isPrivate(f.getModifiers())) {
                open.add(f.getName());
            }
        }
        Set<String> wanted = new TreeSet<>();
        Collections.addAll(wanted, names);
        CHECK.holds("the constants are the document's", open.equals(wanted));
        for (int i = 0; i < names.length; i++) {
            Field f = BargainHall.class.getField(names[i]);
            CHECK.due(names[i], f.getInt(null), values[i]);
            CHECK.holds(names[i] + " is a constant", Modifier.isStatic(f.getModifiers()) && Modifier.isFinal(f.getModifiers()) && f.getType() == int.class);
        }
    }

    private static void insideClasses() {
        Class<?>[] inside = BargainHall.class.getDeclaredClasses();
        CHECK.holds("at most some twelve classes", inside.length < 13);
        Set<String> face = new TreeSet<>();
        for (Method m : BargainHall.class.getDeclaredMethods()) {
            if (Modifier.isPublic(m.getModifiers())) {
                face.add(m.getName());
            }
        }
        for (Class<?> c : inside) {
            CHECK.holds(c + " is static", Modifier.isStatic(c.getModifiers()));
            CHECK.holds(c + " has few fields", fieldsOf(c) <= 20);
            CHECK.due(c + ": classes deeper inside", c.getDeclaredClasses().length, 0);
            for (Method m : c.getDeclaredMethods()) {
                CHECK.holds(m + " bears no name of the face", !face.contains(m.getName()));
                CHECK.holds(m + " takes at most seven", m.getParameterCount() <= 7);
            }
        }
        for (Method m : BargainHall.class.getDeclaredMethods()) {
            CHECK.holds(m + " bears no name of the face", Modifier.isPublic(m.getModifiers()) || !face.contains(m.getName()));
        }
        CHECK.holds("the class has few fields", fieldsOf(BargainHall.class) <= 20);
        staticState(BargainHall.class);
        for (Class<?> c : inside) {
            staticState(c);
        }
    }

    private static int fieldsOf(Class<?> c) {
        int count = 0;
        for (Field f : c.getDeclaredFields()) {
            count += isStatic(f) ? 0 : 1;
        }
        return count;
    }

    private static boolean isStatic(Member m) {
        return Modifier.isStatic(m.getModifiers());
    }

    private static void staticState(Class<?> c) {
        for (Field f : c.getDeclaredFields()) {
            CHECK.holds(f + " is final, if it is static", !isStatic(f) || Modifier.isFinal(f.getModifiers()));
        }
    }

    private static String withoutComments(String source) {
        return source.replaceAll("(?s)/\\*.*?\\*/", "").replaceAll("//[^\n]*", "");
    }

    private static void words(String source) {
        String code = withoutComments(source);
        for (String word : REFUSED_WORDS) {
            String pattern = Character.isLetter(word.charAt(0)) ? "\\b" + word + (word.endsWith("(") || word.endsWith(".") ? "" : "\\b") : word;
            pattern = word.startsWith("Exact") ? word : pattern;
            CHECK.holds("no " + word, !Pattern.compile(pattern).matcher(code).find());
        }
        CHECK.holds("no text joined by +", !code.contains("\""));
        CHECK.holds("signs 1 to 127 alone", source.chars().allMatch(c -> c > 0 && c < 128));
    }

    /** Objects and arrays are made where an object begins, by fields and constructors, and by no call. */
    private static void makings(String source) {
        int depth = 0;
        String method = "";
        for (String line : withoutComments(source).split("\n")) {
            Matcher m = Pattern.compile("^\\s+(?:private |public |static |final )*[\\w\\[\\]]+ (\\w+)\\([^)]*\\) \\{").matcher(line);
            if (m.find() && !line.contains("return ") && !line.contains("if (")) {
                method = m.group(1);
                depth = indent(line);
            }
            if (!method.isEmpty() && line.trim().equals("}") && indent(line) == depth) {
                method = "";
            }
            boolean isConstructor = Character.isUpperCase(method.isEmpty() ? 'X' : method.charAt(0));
            CHECK.holds("nothing is made in " + method, isConstructor || !line.contains("new "));
        }
    }

    private static int indent(String line) {
        return line.length() - line.stripLeading().length();
    }

    private static void lengths(String source) {
        int start = -1;
        int at = 0;
        for (String line : source.split("\n")) {
            at++;
            CHECK.holds("line " + at + " is not long", line.length() <= 130);
            if (line.endsWith(") {") && (indent(line) == 4 || indent(line) == 8) && !line.trim().startsWith("if") && !line.trim().startsWith("for")) {
                start = at;
            }
            if (start > 0 && line.trim().equals("}") && (indent(line) == 4 || indent(line) == 8)) {
                CHECK.holds("the method at line " + start + " is short", at - start <= 60);
                start = -1;
            }
        }
    }
}
