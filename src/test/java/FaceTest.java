import java.io.IOException;
import java.lang.reflect.Field;
import java.lang.reflect.Method;
import java.lang.reflect.Modifier;
import java.nio.file.Files;
import java.nio.file.Path;
import java.util.Arrays;
import java.util.Set;
import java.util.TreeSet;
import java.util.regex.Matcher;
import java.util.regex.Pattern;

/** The public face is the document's and no more, and the source keeps to what LANGUAGE.md can be checked for here. */
public final class FaceTest {
    private static final String[] FACE = {
        "boolean back()", "boolean sign(int)", "int answer(int,int,int)", "int asks(int,int)", "int count(int)",
        "int fewest()", "int grounds(int,int,int)", "int judge(int,int,int)", "int level(int,int,int)",
        "int means(int,int,int)", "int readings(int)", "int told(int,int)", "int wrong(int,int,int)"
    };
    private static final String[] FORBIDDEN = {
        "\\bthrow\\b", "\\btry\\b", "\\bcatch\\b", "\\bsynchronized\\b", "\\bassert\\b", "->", "::", "\\bimport\\b",
        "\\bpackage\\b", "\\bException\\b", "\\bstatic\\s*\\{", "\\bprotected\\b", "Exact\\b", "\\bnative\\b"
    };
    private static final Set<String> LIBRARY = Set.of("Integer.bitCount", "Math.max");
    private static final int LONGEST_METHOD = 60;
    private static final int MOST_FIELDS = 20;
    private static int failures = 0;

    public static void main(String[] args) throws IOException {
        checkFace();
        checkFields();
        checkNames();
        checkSource();
        System.out.println(failures == 0 ? "the face is as due" : failures + " faults");
        if (failures != 0) {
            System.exit(1);
        }
    }

    private static void check(String what, boolean holds) {
        if (!holds) {
            failures++;
            System.out.println(what);
        }
    }

    private static void checkFace() {
        check("the class is public and final", Modifier.isPublic(TextAsker.class.getModifiers())
                && Modifier.isFinal(TextAsker.class.getModifiers()));
        Set<String> due = new TreeSet<>(Arrays.asList(FACE));
        Set<String> got = new TreeSet<>();
        for (Method method : TextAsker.class.getDeclaredMethods()) {
            if (!Modifier.isPrivate(method.getModifiers()) && !method.isSynthetic()) {
                check("not public: " + method, Modifier.isPublic(method.getModifiers()));
                got.add(formOf(method));
            }
        }
        check("methods are " + got + ", due are " + due, got.equals(due));
        check("one constructor", TextAsker.class.getDeclaredConstructors().length == 1);
        check("one public constructor", TextAsker.class.getConstructors().length == 1);
    }

    private static String formOf(Method method) {
        StringBuilder form = new StringBuilder(method.getReturnType().getName() + " " + method.getName() + "(");
        for (int i = 0; i < method.getParameterCount(); i++) {
            form.append(i == 0 ? "" : ",").append(method.getParameterTypes()[i].getName());
        }
        return form.append(")").toString();
    }

    private static void checkFields() {
        for (Field field : TextAsker.class.getDeclaredFields()) {
            boolean isNone = field.getName().equals("NONE");
            check("visible: " + field, Modifier.isPrivate(field.getModifiers()) != isNone);
            check("static but not final: " + field,
                    !Modifier.isStatic(field.getModifiers()) || Modifier.isFinal(field.getModifiers()));
        }
        check("NONE is -1", TextAsker.NONE == -1);
    }

    private static void checkNames() {
        Set<String> face = new TreeSet<>();
        for (Method method : TextAsker.class.getMethods()) {
            face.add(method.getName());
        }
        check("few classes", TextAsker.class.getDeclaredClasses().length <= 12);
        for (Class<?> inside : TextAsker.class.getDeclaredClasses()) {
            check("not static: " + inside, Modifier.isStatic(inside.getModifiers()));
            check("visible: " + inside, (inside.getModifiers() & (Modifier.PUBLIC | Modifier.PROTECTED)) == 0);
            checkFieldsInside(inside);
            for (Method method : inside.getDeclaredMethods()) {
                check("bears a public name: " + method, !face.contains(method.getName()));
                check("more than seven parameters: " + method, method.getParameterCount() <= 7);
            }
        }
        for (Method method : TextAsker.class.getDeclaredMethods()) {
            check("bears a public name: " + method,
                    !Modifier.isPrivate(method.getModifiers()) || !face.contains(method.getName()));
        }
    }

    private static void checkFieldsInside(Class<?> inside) {
        check("many fields: " + inside, inside.getDeclaredFields().length <= MOST_FIELDS);
        for (Field field : inside.getDeclaredFields()) {
            check("static state: " + field, !Modifier.isStatic(field.getModifiers()));
        }
    }

    private static void checkSource() throws IOException {
        String source = Files.readString(Path.of("src/main/java/TextAsker.java"));
        String code = source.replaceAll("(?s)/\\*.*?\\*/", "").replaceAll("//[^\n]*", "");
        for (String pattern : FORBIDDEN) {
            Matcher matcher = Pattern.compile(pattern).matcher(code);
            check("forbidden in the source: " + pattern, !matcher.find());
        }
        Matcher use = Pattern.compile("\\b[A-Z][a-z]\\w*\\.\\w+").matcher(code);
        while (use.find()) {
            check("not looked up in LANGUAGE.md: " + use.group(), LIBRARY.contains(use.group()));
        }
        checkLengths(source.split("\n"));
    }

    /** A method begins with a line that opens a brace behind its parameters, and ends with one as far indented. */
    private static void checkLengths(String[] lines) {
        Pattern head = Pattern.compile("( {4}| {8})(?! )(\\w.*)\\) \\{");
        for (int i = 0; i < lines.length; i++) {
            Matcher method = head.matcher(lines[i]);
            if (method.matches()) {
                int end = i;
                while (end < lines.length && !lines[end].equals(method.group(1) + "}")) {
                    end++;
                }
                check("a long method: " + lines[i], end - i < LONGEST_METHOD);
            }
        }
    }
}
