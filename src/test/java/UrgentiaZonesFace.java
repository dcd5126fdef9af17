import java.lang.reflect.Constructor;
import java.lang.reflect.Field;
import java.lang.reflect.Method;
import java.lang.reflect.Modifier;
import java.nio.file.Files;
import java.nio.file.Path;
import java.util.ArrayList;
import java.util.Arrays;
import java.util.List;

/** The public face, and those rules of LANGUAGE.md that can be read off the class and its text. */
public final class UrgentiaZonesFace {
    private static final String[] FACE = {
        "int addPlace(boolean, int) IllegalArgumentException IllegalStateException",
        "int setGreatest(int, int, int) IndexOutOfBoundsException IllegalArgumentException",
        "int addEdge(int, int, int) IndexOutOfBoundsException IllegalArgumentException IllegalStateException",
        "int addCondition(int, int, char, int) IndexOutOfBoundsException IllegalArgumentException"
            + " IllegalStateException",
        "boolean setBack(int, int, boolean) IndexOutOfBoundsException",
        "boolean mark(int, boolean) IndexOutOfBoundsException",
        "int states() IllegalStateException UnsupportedOperationException",
        "int placeOf(int) IllegalStateException UnsupportedOperationException IndexOutOfBoundsException",
        "int bound(int, int, int) IllegalStateException UnsupportedOperationException IndexOutOfBoundsException",
        "int foundBy(int) IllegalStateException UnsupportedOperationException IndexOutOfBoundsException"
            + " NoSuchElementException",
        "boolean reaches(int) IndexOutOfBoundsException UnsupportedOperationException",
        "boolean reachesAnew(int) IndexOutOfBoundsException",
        "int edgesTo(int) IndexOutOfBoundsException NoSuchElementException",
        "int regions() IllegalStateException",
        "boolean isSafe() IllegalStateException",
        "int stuck() IllegalStateException",
        "int begin() IllegalStateException",
        "int pass(int) IllegalArgumentException IllegalStateException UnsupportedOperationException"
            + " ArithmeticException",
        "int take(int) IndexOutOfBoundsException UnsupportedOperationException",
        "boolean canTake(int) IndexOutOfBoundsException",
        "int leastWait(int) IndexOutOfBoundsException NoSuchElementException",
        "int place() IllegalStateException",
        "int clock(int) IndexOutOfBoundsException",
        "int time()",
        "long cost()",
        "float reachedShare() ArithmeticException",
        "double meanDegree() ArithmeticException",
        "long checksum() IllegalStateException UnsupportedOperationException",
        "boolean isSound()",
    };

    /** Words that the language of the program leaves out. */
    private static final String[] LEFT_OUT = {
        "->", "::", "finally", "synchronized", "assert ", "catch", "try ", "rethrow", "Exact(", "getMessage",
        "System.out", "java.time", "Random", "Thread", "throws Exception", " Object", "static {", "hashCode", "toString"
    };

    private static int wrong = 0;

    private static void check(boolean holds, String what) {
        if (!holds) {
            wrong++;
            System.out.println("does not hold: " + what);
        }
    }

    private static String told(Method method) {
        StringBuilder text = new StringBuilder();
        text.append(method.getReturnType().getSimpleName()).append(' ').append(method.getName()).append('(');
        String between = "";
        for (Class<?> parameter : method.getParameterTypes()) {
            text.append(between).append(parameter.getSimpleName());
            between = ", ";
        }
        text.append(')');
        for (Class<?> thrown : method.getExceptionTypes()) {
            text.append(' ').append(thrown.getSimpleName());
        }
        return text.toString();
    }

    private static void checkFace() {
        List<String> due = new ArrayList<>(Arrays.asList(FACE));
        List<String> names = new ArrayList<>();
        for (Method method : UrgentiaZones.class.getDeclaredMethods()) {
            if (Modifier.isPublic(method.getModifiers())) {
                check(due.remove(told(method)), "the face has " + told(method));
                check(!Modifier.isStatic(method.getModifiers()), method.getName() + " is no static method");
                names.add(method.getName());
            }
        }
        check(due.isEmpty(), "all of the face is there, also " + due);
        for (Method method : UrgentiaZones.class.getDeclaredMethods()) {
            boolean isFace = Modifier.isPublic(method.getModifiers());
            check(isFace || Modifier.isPrivate(method.getModifiers()), method.getName() + " is private");
            check(isFace || !names.contains(method.getName()), method.getName() + " has no name of the face");
        }
        Constructor<?>[] made = UrgentiaZones.class.getDeclaredConstructors();
        check(made.length == 1 && Modifier.isPublic(made[0].getModifiers()) && made[0].getParameterCount() == 0,
            "there is one public constructor");
        int kind = UrgentiaZones.class.getModifiers();
        check(Modifier.isPublic(kind) && Modifier.isFinal(kind), "the class is public and final");
    }

    private static void checkFields() {
        check(UrgentiaZones.class.getDeclaredClasses().length <= 12, "there are some twelve classes at most");
        checkFieldsOf(UrgentiaZones.class, true);
        for (Class<?> inside : UrgentiaZones.class.getDeclaredClasses()) {
            int kind = inside.getModifiers();
            check(Modifier.isStatic(kind) && !Modifier.isPublic(kind) && !Modifier.isProtected(kind),
                inside.getName() + " is static and not public");
            checkFieldsOf(inside, false);
        }
    }

    private static void checkFieldsOf(Class<?> kind, boolean isOuter) {
        int held = 0;
        for (Field field : kind.getDeclaredFields()) {
            int signs = field.getModifiers();
            if (Modifier.isStatic(signs)) {
                check(Modifier.isFinal(signs), field + " is final");
            } else {
                held++;
            }
            check(!isOuter || Modifier.isPrivate(signs), field + " is private");
        }
        check(held <= 20, kind + " has some twenty fields at most");
    }

    private static void checkText() throws Exception {
        String text = Files.readString(Path.of("src/main/java/UrgentiaZones.java"));
        for (String word : LEFT_OUT) {
            check(!text.contains(word), "the text has no '" + word + "'");
        }
        int imports = 0;
        for (String line : text.split("\n")) {
            check(line.length() <= 120, "a line has at most 120 signs: " + line);
            if (line.startsWith("import ")) {
                imports++;
                check(line.equals("import java.util.NoSuchElementException;"), "nothing else is imported: " + line);
            }
        }
        check(imports == 1, "one class is imported");
        for (int index = 0; index < text.length(); index++) {
            check(text.charAt(index) < 128, "the text has signs below 128 alone");
        }
    }

    public static void main(String[] args) throws Exception {
        checkFace();
        checkFields();
        checkText();
        System.out.println(wrong == 0 ? "the face is as due" : wrong + " things are not as due");
        if (wrong != 0) {
            System.exit(1);
        }
    }
}
