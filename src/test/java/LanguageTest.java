import java.io.IOException;
import java.lang.reflect.Field;
import java.lang.reflect.Method;
import java.lang.reflect.Modifier;
import java.nio.file.Files;
import java.nio.file.Path;
import java.util.Arrays;
import java.util.Set;
import java.util.TreeSet;
import java.util.regex.Matcher;
import java.util.regex.Pattern;

/** The rules of LANGUAGE.md that can be looked up in the source or in the compiled class. */
public final class LanguageTest {
    private static final Check CHECK = new Check("LanguageTest");
    private static final String[] FORBIDDEN = {
        "throw", "throws", "try", "catch", "finally", "synchronized", "assert", "import", "package", "->", "::",
        "System\\.(?!arraycopy)\\w+", "\\w+Exact", "hashCode", "toString", "Object", "Random", "Thread", "volatile"
    };

    public static void main(String[] args) throws IOException {
        String root = System.getProperty("project.root", ".");
        String source = Files.readString(Path.of(root, "src", "main", "java", "LawFromTheTree.java"));
        String code = source.replaceAll("(?s)/\\*.*?\\*/", "").replaceAll("//[^\n]*", "");
        noForbiddenWords(code);
        objectsAreMadeWithTheObjectAlone(code);
        methodsAreShort(code);
        theFaceAlone();
        for (Class<?> inside : LawFromTheTree.class.getDeclaredClasses()) {
            members(inside);
        }
        members(LawFromTheTree.class);
        CHECK.due("few classes", LawFromTheTree.class.getDeclaredClasses().length < 12 ? 1 : 0, 1);
        CHECK.end();
    }

    private static void noForbiddenWords(String code) {
        for (String word : FORBIDDEN) {
            boolean isSign = !Character.isLetter(word.charAt(0)) && word.charAt(0) != '\\';
            Matcher m = Pattern.compile(isSign ? Pattern.quote(word) : "\\b" + word + "\\b").matcher(code);
            CHECK.due("the source has " + word, m.find() ? 1 : 0, 0);
        }
        CHECK.due("signs beyond 127", code.chars().filter(c -> c > 127).count(), 0);
    }

    // The room of a run is counted and nothing in it is given back: no call may make anything.
    private static void objectsAreMadeWithTheObjectAlone(String code) {
        int inConstructor = code.indexOf("public LawFromTheTree()");
        int behindIt = code.indexOf("public int letter");
        Matcher m = Pattern.compile("(?m)^(.*)\\bnew\\b").matcher(code);
        while (m.find()) {
            boolean initialises = m.group(1).contains("final ");
            boolean constructs = m.start() > inConstructor && m.start() < behindIt;
            CHECK.due("made outside a constructor: " + m.group(), initialises || constructs ? 1 : 0, 1);
        }
    }

    private static void methodsAreShort(String code) {
        int started = -1;
        String[] lines = code.split("\n");
        for (int i = 0; i < lines.length; i++) {
            if (lines[i].matches(" {4}( {4})?[\\w\\[\\] ]+\\([^)]*\\) \\{")) {
                started = i;
            } else if (lines[i].matches(" {4}( {4})?}") && started >= 0) {
                CHECK.due("short: " + lines[started].trim(), i - started < 60 ? 1 : 0, 1);
            }
        }
    }

    private static void theFaceAlone() {
        Set<String> methods = new TreeSet<>();
        for (Method method : LawFromTheTree.class.getDeclaredMethods()) {
            if (!Modifier.isPrivate(method.getModifiers())) {
                methods.add(method.getName());
                int index = Face.indexOf(method.getName());
                CHECK.due("public: " + method, Modifier.isPublic(method.getModifiers()) ? 1 : 0, 1);
                CHECK.due("arguments of " + method, method.getParameterCount(), Face.ARGUMENTS[index].length);
                boolean isLong = method.getName().matches("mist|mean");
                CHECK.due("answer of " + method, method.getReturnType() == (isLong ? long.class : int.class) ? 1 : 0, 1);
            }
        }
        CHECK.due("the face", methods.equals(new TreeSet<>(Arrays.asList(Face.NAMES))) ? 1 : 0, 1);
        CHECK.due("38 methods", methods.size(), 38);
        CHECK.due("one constructor", LawFromTheTree.class.getDeclaredConstructors().length, 1);
        CHECK.due("public and final", LawFromTheTree.class.getModifiers(), Modifier.PUBLIC | Modifier.FINAL);
        for (Field field : LawFromTheTree.class.getDeclaredFields()) {
            CHECK.due("private: " + field, Modifier.isPrivate(field.getModifiers()) ? 1 : 0, 1);
        }
    }

    private static void members(Class<?> one) {
        int fields = 0;
        for (Field field : one.getDeclaredFields()) {
            boolean isStatic = Modifier.isStatic(field.getModifiers());
            fields += isStatic ? 0 : 1;
            CHECK.due("static, so final: " + field, isStatic && !Modifier.isFinal(field.getModifiers()) ? 1 : 0, 0);
        }
        CHECK.due("few fields of " + one, fields <= 20 ? 1 : 0, 1);
        boolean isFace = one == LawFromTheTree.class;
        CHECK.due("static: " + one, isFace || Modifier.isStatic(one.getModifiers()) ? 1 : 0, 1);
        for (Method method : one.getDeclaredMethods()) {
            CHECK.due("few parameters: " + method, method.getParameterCount() <= 7 ? 1 : 0, 1);
            boolean ofTheFace = isFace && Modifier.isPublic(method.getModifiers());
            boolean bearsItsName = Arrays.asList(Face.NAMES).contains(method.getName());
            CHECK.due("a name of its own: " + method, bearsItsName && !ofTheFace ? 1 : 0, 0);
        }
    }
}
