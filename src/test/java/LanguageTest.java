import java.io.IOException;
import java.lang.reflect.Constructor;
import java.lang.reflect.Field;
import java.lang.reflect.Method;
import java.lang.reflect.Modifier;
import java.nio.file.Files;
import java.nio.file.Path;
import java.util.Arrays;
import java.util.HashSet;
import java.util.Set;
import java.util.TreeSet;
import java.util.regex.Matcher;
import java.util.regex.Pattern;

/** The document's face, and those rules of LANGUAGE.md that can be seen in the class or its text. */
public final class LanguageTest {
    private static final String FACE = "row3 set3 copy5 drop1 fold2 keep3 give3 begin0 forget2 state2 states1 token4 "
        + "cost2 change4 nearest2 groups0 group2 shape3 look4 approve5 approveAll3 undo0 entry2 kind2 as3 ask3 trace1 "
        + "count1 status0";
    private static final String[] FORBIDDEN = {"\\bthrow\\b", "\\btry\\b", "\\bcatch\\b", "\\bsynchronized\\b",
        "\\bassert\\b", "->", "::", "\\bpackage\\b", "\\bprotected\\b", "\\bhashCode\\b", "\\btoString\\b",
        "\\bstatic\\s*\\{", "\\w+Exact\\b", "\\bdouble\\b", "\\bfloat\\b", "\"", "\\bObject\\b"};

    public static void main(String[] args) throws IOException {
        face();
        nested();
        text();
        library();
        Due.end("LanguageTest");
    }

    private static void face() {
        Class<?> c = GoldenKeeper.class;
        Due.isTrue("public and final", c.getModifiers() == (Modifier.PUBLIC | Modifier.FINAL));
        Set<String> methods = new TreeSet<>();
        Set<String> open = new HashSet<>();
        for (Method m : c.getDeclaredMethods()) {
            if (Modifier.isPrivate(m.getModifiers())) {
                continue;
            }
            Due.isTrue(m + " is of the face", m.getModifiers() == Modifier.PUBLIC && m.getReturnType() == int.class);
            methods.add(m.getName() + m.getParameterCount());
            open.add(m.getName());
        }
        Due.isTrue("the methods are " + methods, methods.equals(new TreeSet<>(Arrays.asList(FACE.split(" ")))));
        Set<String> constants = new TreeSet<>();
        for (Field f : c.getDeclaredFields()) {
            if (!Modifier.isPrivate(f.getModifiers())) {
                constants.add(f.getName());
            }
        }
        Due.isTrue("the constants are " + constants, constants.equals(Set.of("NONE", "BAD", "STATE", "FULL")));
        Constructor<?>[] made = c.getDeclaredConstructors();
        Due.isTrue("one constructor", made.length == 1 && made[0].getModifiers() == Modifier.PUBLIC);
        noPrivateNamesake(c, open);
        for (Class<?> inside : c.getDeclaredClasses()) {
            noPrivateNamesake(inside, open);
        }
    }

    private static void noPrivateNamesake(Class<?> c, Set<String> open) {
        for (Method m : c.getDeclaredMethods()) {
            Due.isTrue(m + " bears a public name", Modifier.isPublic(m.getModifiers()) || !open.contains(m.getName()));
            Due.isTrue(m + " has seven parameters at most", m.getParameterCount() <= 7);
        }
    }

    private static void nested() {
        Class<?>[] inside = GoldenKeeper.class.getDeclaredClasses();
        Due.isTrue("twelve classes at most", inside.length < 12);
        for (Class<?> c : inside) {
            Due.isTrue(c + " is static", Modifier.isStatic(c.getModifiers()));
            fields(c);
        }
        fields(GoldenKeeper.class);
    }

    private static void fields(Class<?> c) {
        int fields = 0;
        for (Field f : c.getDeclaredFields()) {
            boolean isStatic = Modifier.isStatic(f.getModifiers());
            fields += isStatic ? 0 : 1;
            Due.isTrue(f + " is final, if static", !isStatic || Modifier.isFinal(f.getModifiers()));
        }
        Due.isTrue(c + " has twenty fields at most", fields <= 20);
    }

    /** The text of the class without its comments. */
    private static String code() throws IOException {
        String text = Files.readString(Path.of("src/main/java/GoldenKeeper.java"));
        text = Pattern.compile("/\\*.*?\\*/", Pattern.DOTALL).matcher(text).replaceAll("");
        return text.replaceAll("//[^\n]*", "");
    }

    // rule 4, as far as the class uses the library; a call more needs a look at that rule first
    private static void library() throws IOException {
        Set<String> fine = Set.of("Arrays.copyOf", "Arrays.fill", "System.arraycopy", "Math.min", "Math.max",
            "Integer.compare");
        Matcher calls = Pattern.compile("\\b(Arrays|System|Math|Integer|Long|Short|Byte|Character|String|List)\\.\\w+")
            .matcher(code());
        while (calls.find()) {
            Due.isTrue(calls.group() + " is of the library that is left", fine.contains(calls.group()));
        }
    }

    private static void text() throws IOException {
        String text = code();
        for (String word : FORBIDDEN) {
            Due.isTrue("no " + word, !Pattern.compile(word).matcher(text).find());
        }
        Matcher imports = Pattern.compile("import ([^;]*);").matcher(text);
        while (imports.find()) {
            Due.isTrue("import of " + imports.group(1), imports.group(1).matches("java\\.util\\.(Arrays|ArrayList|List)"));
        }
        int start = 0;
        String[] lines = text.split("\n");
        for (int i = 0; i < lines.length; i++) {
            if (lines[i].matches(" {4}( {4})?\\S.*\\) \\{")) {
                start = i;
            } else if (lines[i].matches(" {4}( {4})?\\}")) {
                Due.isTrue("the method at line " + start + " is short", i - start <= 60 || lines[i].equals("    }"));
            }
        }
    }

    private LanguageTest() { }
}
