import java.lang.reflect.Constructor;
import java.lang.reflect.Field;
import java.lang.reflect.Method;
import java.lang.reflect.Modifier;
import java.nio.file.Files;
import java.nio.file.Path;
import java.util.ArrayList;
import java.util.Arrays;
import java.util.List;
import java.util.TreeSet;
import java.util.regex.Pattern;

/** The public face as the document prints it, and the rules of LANGUAGE.md that can be seen from outside. */
public final class FaceTest {
    private static final String IAE = "IllegalArgumentException";
    private static final String ISE = "IllegalStateException";
    private static final String IOOBE = "IndexOutOfBoundsException";

    private static final String[] METHODS = {
        "int zone(int,int) " + IAE + " " + ISE,
        "int want(int,int) " + IOOBE + " " + IAE,
        "int link(int,int) " + IOOBE + " " + IAE,
        "int expose(int) " + IAE,
        "int burn(int,int) " + IOOBE + " " + IAE,
        "int hold(int,int) " + IOOBE + " " + IAE,
        "int paper(int,int) " + IAE,
        "int plan()",
        "int set(int) " + IAE,
        "int append(int) " + IAE + " " + ISE,
        "int clearBuffer()",
        "int firstError()",
        "int run() " + IAE,
        "int undo() " + ISE,
        "int zoneOf(int,int) " + IOOBE + " " + IAE,
        "int mark(int) " + IAE,
        "int strip(int,int,int,int) " + IOOBE + " " + IAE,
        "int count(int) " + IAE,
        "int ifExposed(int,int) " + IAE,
        "int bestTime()",
        "int bestGrade()",
        "int ifBurned(int,int,int) " + IOOBE + " " + IAE,
        "int common(int) " + IAE,
        "double rightShare()",
        "long digest()",
    };

    /** What LANGUAGE.md leaves no room for, as far as a pattern can tell. */
    private static final String[] FORBIDDEN = {
        "->", "::", "\\bimport\\s+(?!java\\.util\\.(ArrayList|Arrays|Iterator|List|NoSuchElementException);)",
        "\\bpackage\\b", "\\bfinally\\b", "\\bassert\\b", "\\bsynchronized\\b", "\\bDouble\\b", "\\bFloat\\b",
        "\\bSystem\\.(?!arraycopy\\b)", "\\bThread\\b", "\\bThrowable\\b", "\\.\\w+Exact\\b", "\\bhashCode\\b",
        "\\bcatch\\s*\\([^)]*\\b(Exception|Error|ArrayIndexOutOfBounds\\w*|NullPointer\\w*|ClassCast\\w*)\\b",
        "\\bcatch\\s*\\([^)]*\\b(Arithmetic\\w*|NegativeArraySize\\w*|ArrayStore\\w*)\\b",
    };

    public static void main(String[] args) throws Exception {
        Checks checks = new Checks();
        checkFace(checks);
        checkInside(checks);
        checkSource(checks);
        checks.end();
    }

    private static void checkFace(Checks checks) throws Exception {
        Class<?> face = ZonePrint.class;
        checks.isTrue("the class is public and final",
            Modifier.isPublic(face.getModifiers()) && Modifier.isFinal(face.getModifiers()));
        checks.same("NONE", ZonePrint.NONE, -1);
        checks.same("constructors", face.getDeclaredConstructors().length, 1);
        Constructor<?> made = face.getDeclaredConstructors()[0];
        checks.isTrue("the constructor is public, takes and declares nothing", Modifier.isPublic(made.getModifiers())
            && made.getParameterCount() == 0 && made.getExceptionTypes().length == 0);
        TreeSet<String> got = new TreeSet<>();
        for (Method method : face.getDeclaredMethods()) {
            if (!Modifier.isPrivate(method.getModifiers())) {
                checks.isTrue(method + " is public and no static one", method.getModifiers() == Modifier.PUBLIC);
                got.add(faceOf(method));
            }
        }
        TreeSet<String> due = new TreeSet<>(Arrays.asList(METHODS));
        checks.isTrue("the methods are " + got + ", due are " + due, got.equals(due));
        for (Field field : face.getDeclaredFields()) {
            boolean constant = field.getName().equals("NONE") && field.getType() == int.class
                && field.getModifiers() == (Modifier.PUBLIC | Modifier.STATIC | Modifier.FINAL);
            checks.isTrue(field + " is private, or NONE", constant || Modifier.isPrivate(field.getModifiers()));
        }
    }

    private static String faceOf(Method method) {
        List<String> takes = new ArrayList<>();
        for (Class<?> type : method.getParameterTypes()) {
            takes.add(type.getSimpleName());
        }
        StringBuilder text = new StringBuilder();
        text.append(method.getReturnType().getSimpleName()).append(' ').append(method.getName());
        text.append('(').append(String.join(",", takes)).append(')');
        for (Class<?> type : method.getExceptionTypes()) {
            text.append(' ').append(type.getSimpleName());
        }
        return text.toString();
    }

    private static void checkInside(Checks checks) {
        TreeSet<String> faceNames = new TreeSet<>();
        for (String method : METHODS) {
            faceNames.add(method.replaceAll("^\\w+ (\\w+)\\(.*$", "$1"));
        }
        for (Class<?> inside : ZonePrint.class.getDeclaredClasses()) {
            int modifiers = inside.getModifiers();
            checks.isTrue(inside + " is static, and neither public nor protected", Modifier.isStatic(modifiers)
                && !Modifier.isPublic(modifiers) && !Modifier.isProtected(modifiers));
            checks.isTrue(inside + " has at most twenty fields", inside.getDeclaredFields().length <= 20);
            checkNames(checks, inside, faceNames);
        }
        checkNames(checks, ZonePrint.class, faceNames);
    }

    private static void checkNames(Checks checks, Class<?> type, TreeSet<String> faceNames) {
        for (Method method : type.getDeclaredMethods()) {
            if (Modifier.isPrivate(method.getModifiers())) {
                checks.isTrue(method + " bears no name of the face", !faceNames.contains(method.getName()));
            }
        }
    }

    private static void checkSource(Checks checks) throws Exception {
        String source = Files.readString(Path.of("src/main/java/ZonePrint.java"));
        String code = source.replaceAll("(?s)/\\*.*?\\*/", "").replaceAll("//[^\n]*", "");
        // An arrow behind a case is no lambda.
        code = code.replaceAll("\\b(case [^:;{}]*?|default) *->", "$1:");
        for (String forbidden : FORBIDDEN) {
            checks.isTrue("the class has no " + forbidden, !Pattern.compile(forbidden).matcher(code).find());
        }
        for (int place = 0; place < source.length(); place++) {
            checks.isTrue("the source is plain ASCII", source.charAt(place) < 127);
        }
    }
}
