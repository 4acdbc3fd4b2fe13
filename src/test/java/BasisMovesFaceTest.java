import java.io.IOException;
import java.lang.reflect.Constructor;
import java.lang.reflect.Field;
import java.lang.reflect.Method;
import java.lang.reflect.Modifier;
import java.nio.file.Files;
import java.nio.file.Path;
import java.util.Set;
import java.util.TreeSet;
import java.util.regex.Matcher;
import java.util.regex.Pattern;

/** The public face is the document's, whole and alone; and rules of LANGUAGE.md that a scan can see. */
public final class BasisMovesFaceTest {
    private static final String[] FACE = {
        "int part(int,int)", "int about(int,int)", "int kostka(int,int)", "int character(int,int)",
        "int above(int,int)", "int put(int,int,int,int)", "int add(int,int,int)", "int degree(int)",
        "long coefficient(int,int,int,int)", "int next(int,int,int)", "long value(int,int,int,int)",
        "long scalar(int,int)", "int times(int,int,int)", "int turn(int,int)",
        "int strip(int,int,int)", "int meet(int,int,int)", "int plug(int,int,int)",
        "int image(int)", "int restore(int)", "int count(int)",
    };
    private static final String[] CONSTANTS = {
        "int UNKNOWN", "int OUTSIDE", "int STATE", "int FULL", "int NONE", "long GONE",
    };
    private static final String[] FORBIDDEN = {
        "\\bthrow\\b", "\\btry\\b", "\\bcatch\\b", "\\bsynchronized\\b", "\\bassert\\b", "->", "::",
        "\\bprotected\\b", "Exact\\b", "\\bThread\\b", "\\bRandom\\b", "\\bcurrentTimeMillis\\b",
        "\\bnanoTime\\b", "\\bObject\\b", "\\bpackage\\b",
    };
    private static int wrong = 0;

    private static void check(boolean good, String what) {
        if (!good) {
            wrong++;
            System.out.println(what);
        }
    }

    public static void main(String[] args) throws IOException {
        checkClass();
        checkMethods();
        checkFields();
        checkInsideClasses();
        checkSource();
        System.out.println(wrong == 0 ? "the face is as due" : wrong + " faults in the face");
        if (wrong != 0) {
            System.exit(1);
        }
    }

    private static void checkClass() {
        int modifiers = BasisMoves.class.getModifiers();
        check(Modifier.isPublic(modifiers) && Modifier.isFinal(modifiers), "class: public final");
        Constructor<?>[] constructors = BasisMoves.class.getDeclaredConstructors();
        check(constructors.length == 1 && constructors[0].getParameterCount() == 0
                && Modifier.isPublic(constructors[0].getModifiers()), "one public constructor");
    }

    private static String signature(Method method) {
        StringBuilder text = new StringBuilder(method.getReturnType().getSimpleName());
        text.append(' ').append(method.getName()).append('(');
        for (int i = 0; i < method.getParameterCount(); i++) {
            text.append(i > 0 ? "," : "").append(method.getParameterTypes()[i].getSimpleName());
        }
        return text.append(')').toString();
    }

    private static void checkMethods() {
        Set<String> due = new TreeSet<>(Set.of(FACE));
        Set<String> names = new TreeSet<>();
        for (String one : FACE) {
            names.add(one.substring(one.indexOf(' ') + 1, one.indexOf('(')));
        }
        for (Method method : BasisMoves.class.getDeclaredMethods()) {
            int modifiers = method.getModifiers();
            if (Modifier.isPrivate(modifiers)) {
                check(!names.contains(method.getName()), "private method with a public name: " + method);
            } else {
                check(due.remove(signature(method)), "not in the document: " + method);
                check(Modifier.isPublic(modifiers) && !Modifier.isStatic(modifiers), "public: " + method);
            }
        }
        check(due.isEmpty(), "missing: " + due);
    }

    private static void checkFields() {
        Set<String> due = new TreeSet<>(Set.of(CONSTANTS));
        for (Field field : BasisMoves.class.getDeclaredFields()) {
            int modifiers = field.getModifiers();
            if (!Modifier.isPrivate(modifiers)) {
                check(due.remove(field.getType().getSimpleName() + " " + field.getName()),
                        "not in the document: " + field);
                check(Modifier.isPublic(modifiers) && Modifier.isStatic(modifiers)
                        && Modifier.isFinal(modifiers), "a constant: " + field);
            }
            check(!Modifier.isStatic(modifiers) || Modifier.isFinal(modifiers), "not final: " + field);
        }
        check(due.isEmpty(), "missing: " + due);
        check(BasisMoves.UNKNOWN == -1 && BasisMoves.OUTSIDE == -2 && BasisMoves.STATE == -3
                && BasisMoves.FULL == -4 && BasisMoves.NONE == -6
                && BasisMoves.GONE == -4000000000000000000L, "values of the constants");
    }

    private static void checkInsideClasses() {
        Set<String> names = new TreeSet<>();
        for (String one : FACE) {
            names.add(one.substring(one.indexOf(' ') + 1, one.indexOf('(')));
        }
        for (Class<?> inside : BasisMoves.class.getDeclaredClasses()) {
            int modifiers = inside.getModifiers();
            check(Modifier.isStatic(modifiers) && !Modifier.isPublic(modifiers)
                    && !Modifier.isProtected(modifiers), "static, not public: " + inside);
            check(inside.getDeclaredFields().length <= 20, "too many fields: " + inside);
            for (Method method : inside.getDeclaredMethods()) {
                check(!names.contains(method.getName()), "a public name inside: " + method);
                check(method.getParameterCount() <= 7, "too many parameters: " + method);
            }
            for (Field field : inside.getDeclaredFields()) {
                check(!Modifier.isStatic(field.getModifiers()) || Modifier.isFinal(field.getModifiers()),
                        "not final: " + field);
            }
        }
    }

    private static void checkSource() throws IOException {
        String path = System.getProperty("basismoves.source", "src/main/java/BasisMoves.java");
        String text = Files.readString(Path.of(path));
        String code = text.replaceAll("(?s)/\\*.*?\\*/", "").replaceAll("//[^\n]*", "");
        for (String one : FORBIDDEN) {
            check(!Pattern.compile(one).matcher(code).find(), "in the source: " + one);
        }
        Matcher imports = Pattern.compile("\\bimport\\s+([^;]+);").matcher(code);
        while (imports.find()) {
            check(imports.group(1).equals("java.util.Arrays"), "import " + imports.group(1));
        }
        for (int i = 0; i < text.length(); i++) {
            check(text.charAt(i) < 128, "a sign above 127 at " + i);
        }
    }
}
