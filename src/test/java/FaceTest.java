import java.io.IOException;
import java.lang.reflect.Constructor;
import java.lang.reflect.Field;
import java.lang.reflect.Method;
import java.lang.reflect.Modifier;
import java.nio.file.Files;
import java.nio.file.Path;
import java.util.ArrayList;
import java.util.Arrays;
import java.util.List;
import java.util.Set;
import java.util.TreeSet;
import java.util.regex.Matcher;
import java.util.regex.Pattern;

/** "The public face" of the document, and those rules of LANGUAGE.md that can be seen from outside. Run in the project's directory. */
public final class FaceTest {
    private static final String ARGUMENT = " throws IllegalArgumentException";
    private static final String BOTH = " throws IllegalArgumentException, IllegalStateException";
    private static final String[] FACE = {
        "int add(int, boolean)" + BOTH,
        "int field(int, int)" + BOTH,
        "int shape(int, int, boolean)" + BOTH,
        "int takes(int)" + BOTH,
        "int method(int, int, int, int, int)" + ARGUMENT,
        "int argument(int)" + BOTH,
        "int put(int, int, int)" + BOTH,
        "int to(int)" + BOTH,
        "int row(int, int, int, int)" + BOTH,
        "int judge()",
        "int frame(int, int)" + ARGUMENT,
        "int context(int, int)",
        "int told(int, int)",
        "long digest()",
        "boolean stands(int, int)" + ARGUMENT,
        "int common(int, int)" + ARGUMENT,
    };

    public static void main(String[] args) throws IOException {
        theClass();
        itsMethods();
        itsOtherMembers();
        for (Class<?> c : allClasses()) {
            fieldsOf(c);
            methodsOf(c);
        }
        source(Files.readString(Path.of("src/main/java/FlowJudge.java")));
        Check.end("FaceTest");
    }

    private static void theClass() {
        Class<?> c = FlowJudge.class;
        Check.same("the class is public and final, and nothing else", Modifier.toString(c.getModifiers()), "public final");
        Check.same("it has no package", c.getName(), "FlowJudge");
        Check.yes("it is below Object", c.getSuperclass() == Object.class);
        Check.same("it has no interfaces", c.getInterfaces().length, 0);
        Constructor<?>[] made = c.getDeclaredConstructors();
        Check.same("one constructor", made.length, 1);
        Check.same("public FlowJudge()", made[0].toString(), "public FlowJudge()");
    }

    private static String listOf(Class<?>[] types) {
        StringBuilder text = new StringBuilder();
        for (Class<?> t : types) {
            text.append(text.length() > 0 ? ", " : "").append(t.getSimpleName());
        }
        return text.toString();
    }

    private static String told(Method m) {
        String thrown = listOf(m.getExceptionTypes());
        return m.getReturnType().getSimpleName() + " " + m.getName() + "(" + listOf(m.getParameterTypes()) + ")"
            + (thrown.isEmpty() ? "" : " throws " + thrown);
    }

    private static void itsMethods() {
        Set<String> due = new TreeSet<>(Arrays.asList(FACE));
        Set<String> got = new TreeSet<>();
        for (Method m : FlowJudge.class.getDeclaredMethods()) {
            if (!Modifier.isPrivate(m.getModifiers()) && !m.isSynthetic()) {
                got.add(told(m));
                Check.same(told(m), Modifier.toString(m.getModifiers()), "public");
            }
        }
        Check.same("the face", String.join("\n", got), String.join("\n", due));
    }

    private static void itsOtherMembers() {
        for (Field f : FlowJudge.class.getDeclaredFields()) {
            Check.yes(f.getName() + " is private", Modifier.isPrivate(f.getModifiers()));
        }
        for (Class<?> c : FlowJudge.class.getDeclaredClasses()) {
            Check.no(c + " is not public or protected", Modifier.isPublic(c.getModifiers()) || Modifier.isProtected(c.getModifiers()));
            Check.yes(c + " is static", Modifier.isStatic(c.getModifiers()));
        }
    }

    private static List<Class<?>> allClasses() {
        List<Class<?>> all = new ArrayList<>();
        all.add(FlowJudge.class);
        all.addAll(Arrays.asList(FlowJudge.class.getDeclaredClasses()));
        Check.yes("at most twelve classes", all.size() <= 12);
        return all;
    }

    /** Rules 5 and 11. */
    private static void fieldsOf(Class<?> c) {
        int fields = 0;
        for (Field f : c.getDeclaredFields()) {
            if (f.isSynthetic()) {
                continue;
            }
            if (!Modifier.isStatic(f.getModifiers())) {
                fields++;
                continue;
            }
            Check.yes(f + " is final", Modifier.isFinal(f.getModifiers()));
            Check.yes(f + " is a constant", f.getType().isPrimitive() || f.getType() == String.class || f.getType() == int[].class);
        }
        Check.yes(c + " has at most twenty fields", fields <= 20);
    }

    /** Rules 1 and 11. */
    private static void methodsOf(Class<?> c) {
        for (Method m : c.getDeclaredMethods()) {
            if (m.isSynthetic()) {
                continue;
            }
            Check.yes(m + " takes at most seven parameters", m.getParameterCount() <= 7);
            boolean isFace = c == FlowJudge.class && Modifier.isPublic(m.getModifiers());
            for (String face : FACE) {
                Check.no(m + " bears a public method's name", !isFace && face.contains(" " + m.getName() + "("));
            }
        }
    }

    /** Rules 2, 4, 6, 9 and 11, as far as words can tell. */
    private static void source(String text) {
        String code = text.replaceAll("(?s)/\\*.*?\\*/", "").replaceAll("//[^\n]*", "").replaceAll("\"[^\"]*\"", "\"\"");
        for (String word : new String[] {
            "try", "catch", "finally", "synchronized", "assert", "while", "instanceof", "protected", "package", "float", "double",
            "hashCode", "equals", "toString", "var", "yield", "Object",
        }) {
            Check.no("the word " + word, Pattern.compile("\\b" + word + "\\b").matcher(code).find());
        }
        Check.no("a lambda", code.contains("->"));
        Check.no("a method reference", code.contains("::"));
        Check.no("an annotation", code.contains("@"));
        Matcher imports = Pattern.compile("\\bimport ([^;]*);").matcher(code);
        while (imports.find()) {
            Check.same("an import", imports.group(1), "java.util.Arrays");
        }
        Matcher library = Pattern.compile("\\b(System|Arrays|Math|Integer|Long|String)\\.(\\w+)").matcher(code);
        while (library.find()) {
            Check.yes(library.group() + " is of the library", Set.of("System.arraycopy", "Arrays.fill", "Arrays.copyOf").contains(library.group()));
        }
        Matcher thrown = Pattern.compile("\\bthrow\\b([^;]*);").matcher(code);
        while (thrown.find()) {
            Check.yes("throw" + thrown.group(1), thrown.group(1).matches(" new Illegal(Argument|State)Exception\\(\"\"\\)"));
        }
        lengths(code);
    }

    private static void lengths(String code) {
        String[] lines = code.split("\n");
        int from = -1;
        String indent = "";
        for (int k = 0; k < lines.length; k++) {
            Matcher m = Pattern.compile("^( {4}| {8})\\w[\\w\\[\\] ]*\\([^;]*\\{$").matcher(lines[k]);
            if (from < 0 && m.matches() && !lines[k].trim().matches("(if|for|switch|else).*")) {
                from = k;
                indent = m.group(1);
            } else if (from >= 0 && lines[k].equals(indent + "}")) {
                Check.yes(lines[from].trim() + " has at most sixty lines", k - from < 60);
                from = -1;
            }
        }
    }
}
