import java.lang.reflect.Constructor;
import java.lang.reflect.Field;
import java.lang.reflect.Method;
import java.lang.reflect.Modifier;
import java.nio.file.Files;
import java.nio.file.Path;
import java.util.ArrayList;
import java.util.Arrays;
import java.util.List;
import java.util.TreeSet;
import java.util.regex.Matcher;
import java.util.regex.Pattern;

/** The face of the class, and those rules of LANGUAGE.md that a look at the text and at the compiled class can tell. */
public final class LanguageTest {
    private static final String[] FACE = {"int set(int,int)", "int pupil()", "int book(int,int,int)", "int giveBack(int,int)",
        "int throwPot(int,int)", "int load(int)", "int unload(int)", "int fire(int)", "int glaze(int,int)",
        "int fill(int,int)", "int takeHome(int)", "int pass(int)", "int of(int,int)", "int ofPupil(int,int)",
        "int booked(int,int)", "int count(int)", "int why(int)", "int dryIn(int)", "int ifFired(int,int)",
        "int bestHeat()", "int firstFree(int,int)", "int put(long)", "int wipe()", "int fault()", "int carryOut()",
        "int undo()", "int save(int)", "int restore(int)"};
    private static final String[] CONSTANTS = {"NO_SUCH=-1", "BAD_VALUE=-2", "BAD_TEXT=-3", "TOO_MANY=-4", "NOT_POSSIBLE=-5",
        "NONE=-6", "DRY=0", "KILN=1", "LIMIT=2", "FEE=3"};
    private static final String[] NOT_ALLOWED = {"\\bthrow\\b", "\\bthrows\\b", "\\btry\\b", "\\bcatch\\b",
        "\\bsynchronized\\b", "\\bassert\\b", "\\bimport\\b", "\\bpackage\\b", "->", "::", "@", "\\bstatic\\s*\\{",
        "\\bprotected\\b", "\\bvar\\b", "\\.equals\\(", "\\.hashCode\\(", "\\.toString\\(", "Exact\\(",
        "\\bSystem\\.(?!arraycopy)", "\\bvolatile\\b", "\\bnative\\b", "\\bjava\\.", "\\bObject\\b"};

    public static void main(String[] args) throws Exception {
        face();
        classesInside();
        text(Files.readString(Path.of("src/main/java/PotteryNights.java")));
        Checks.finish();
    }

    private static void so(String what, boolean is) {
        Checks.due(what + " (1: yes)", is ? 1 : 0, 1);
    }

    private static void face() throws IllegalAccessException {
        Class<?> c = PotteryNights.class;
        so("the class is public and final", Modifier.isPublic(c.getModifiers()) && Modifier.isFinal(c.getModifiers()));
        List<String> methods = new ArrayList<>();
        for (Method m : c.getDeclaredMethods()) {
            if (Modifier.isPrivate(m.getModifiers())) {
                continue;
            }
            so(m.getName() + " is public and of objects", Modifier.isPublic(m.getModifiers()) && !Modifier.isStatic(m.getModifiers()));
            StringBuilder types = new StringBuilder();
            for (Class<?> type : m.getParameterTypes()) {
                types.append(types.length() == 0 ? "" : ",").append(type.getName());
            }
            methods.add(m.getReturnType().getName() + " " + m.getName() + "(" + types + ")");
        }
        so("the methods are those of the document: " + methods, new TreeSet<>(methods).equals(new TreeSet<>(Arrays.asList(FACE))));
        List<String> constants = new ArrayList<>();
        for (Field f : c.getDeclaredFields()) {
            if (!Modifier.isPrivate(f.getModifiers())) {
                so(f.getName() + " is a public constant", f.getModifiers() == (Modifier.PUBLIC | Modifier.STATIC | Modifier.FINAL));
                constants.add(f.getName() + "=" + f.getInt(null));
            }
        }
        so("the constants are those of the document: " + constants,
                new TreeSet<>(constants).equals(new TreeSet<>(Arrays.asList(CONSTANTS))));
        Constructor<?>[] constructors = c.getDeclaredConstructors();
        so("one public constructor without arguments", constructors.length == 1 && constructors[0].getParameterCount() == 0
                && Modifier.isPublic(constructors[0].getModifiers()));
    }

    private static void classesInside() {
        Class<?>[] inside = PotteryNights.class.getDeclaredClasses();
        so("some twelve classes", inside.length < 12);
        TreeSet<String> publicNames = new TreeSet<>();
        for (String method : FACE) {
            publicNames.add(method.substring("int ".length(), method.indexOf('(')));
        }
        List<Class<?>> all = new ArrayList<>(Arrays.asList(inside));
        all.add(PotteryNights.class);
        for (Class<?> c : all) {
            int fields = 0;
            for (Field f : c.getDeclaredFields()) {
                boolean isStatic = Modifier.isStatic(f.getModifiers());
                so(c.getName() + "." + f.getName() + " is final if it is static", !isStatic || Modifier.isFinal(f.getModifiers()));
                fields += isStatic ? 0 : 1;
            }
            so(c.getName() + " has some twenty fields", fields <= 20);
            for (Method m : c.getDeclaredMethods()) {
                so(m.getName() + " takes seven at most", m.getParameterCount() <= 7);
                so(m.getName() + " is made by hand", !m.isSynthetic());
                so(c.getName() + "." + m.getName() + " bears no name of the face",
                        c == PotteryNights.class && !Modifier.isPrivate(m.getModifiers()) || !publicNames.contains(m.getName()));
            }
        }
        for (Class<?> c : inside) {
            so(c.getName() + " is static and not public", Modifier.isStatic(c.getModifiers()) && !Modifier.isPublic(c.getModifiers()));
        }
    }

    private static void text(String whole) {
        String text = whole.replaceAll("(?s)/\\*.*?\\*/", "").replaceAll("//[^\n]*", "").replaceAll("'[^']'", "' '");
        for (String pattern : NOT_ALLOWED) {
            Matcher found = Pattern.compile(pattern).matcher(text);
            so("nothing is like " + pattern, !found.find());
        }
        so("all characters are 10 or 32 to 126", whole.chars().allMatch(c -> c == 10 || c >= 32 && c <= 126));
        int start = 0;
        int line = 0;
        for (String row : whole.split("\n")) {
            line++;
            so("line " + line + " is at most 120 long", row.length() <= 120);
            if (row.matches("    (    )?[a-z].*\\) \\{")) {
                start = line;
            } else if (row.matches("    (    )?\\}")) {
                so("the method that ends in line " + line + " is short", line - start <= 60);
            }
        }
    }
}
