import java.lang.reflect.Constructor;
import java.lang.reflect.Field;
import java.lang.reflect.Method;
import java.lang.reflect.Modifier;
import java.nio.file.Files;
import java.nio.file.Path;
import java.util.Arrays;
import java.util.List;
import java.util.Set;
import java.util.TreeSet;
import java.util.regex.Matcher;
import java.util.regex.Pattern;

/** The class has the public face of the document and nothing beside it, and keeps to LANGUAGE.md where a text shows it. */
public final class FaceTest {
    private static final String MISSING = " throws NoSuchElementException";
    private static final String ILLEGAL = " throws IllegalArgumentException";
    private static final String BOTH = MISSING + " IllegalArgumentException";
    private static final Set<String> FACE = Set.of(
            "int feed(int,int,int,int,int)", "int load(int)" + ILLEGAL, "int errorPosition()", "int sine(int)",
            "int arc(int)" + ILLEGAL, "int told(int)" + MISSING, "int body(int,int)" + MISSING,
            "int leg(int,int)" + MISSING, "int displacement(int,boolean)" + ILLEGAL,
            "int reckoned(int,boolean)" + ILLEGAL, "int sight(int,int)" + MISSING, "int carried(int,int)" + BOTH,
            "int crossing(int,int,int,boolean)" + BOTH, "int hat(int,int,int,int,int)" + BOTH,
            "int smallestHat(int)" + ILLEGAL, "boolean isInside(int,int,int,int,int,int)" + BOTH,
            "int fix(int,boolean)" + ILLEGAL, "int residual(int,int)" + BOTH, "int worst(int)" + ILLEGAL,
            "int offCourse(int)" + ILLEGAL, "int unknownCurrent(int,boolean)" + ILLEGAL,
            "double meanResidual(int)" + ILLEGAL, "float meanIntercept()", "int observe(int,int,int)" + BOTH,
            "int drop(int)" + MISSING, "int steer(int,int,int)" + ILLEGAL, "int setCurrent(int,int)" + ILLEGAL,
            "int correct(int,int)" + ILLEGAL, "int format(int)" + MISSING, "int formattedByte(int)",
            "int undoCount()", "int undo()", "void saveSnapshot()", "boolean restoreSnapshot()",
            "int query(int)" + ILLEGAL);
    private static final List<String> RULED_OUT = List.of("->", "::", "\\bcatch\\b", "\\bfinally\\b", "\\bsynchronized\\b",
            "\\bassert\\b", "\\bvar\\b", "Exact\\b", "\\bSystem\\.(?!arraycopy\\b)", "\\bMath\\.(sqrt|sin|cos|random|floor\\()",
            "\\bimport (?!java\\.util\\.NoSuchElementException;)", "^package\\b", "String\\.format", "\\bThread\\b",
            "\" *\\+|\\+ *\"", "\\bstatic (?!final|int|long|boolean|void|class)");

    public static void main(String[] args) throws Exception {
        face();
        language();
        room();
        Checks.finish("FaceTest");
    }

    private static void face() {
        Class<?> type = SightReducer.class;
        Checks.due("the class is public and final", type.getModifiers(), Modifier.PUBLIC | Modifier.FINAL);
        Set<String> found = new TreeSet<>();
        Set<String> hidden = new TreeSet<>();
        for (Method method : type.getDeclaredMethods()) {
            if (Modifier.isPrivate(method.getModifiers())) {
                hidden.add(method.getName());
            } else {
                found.add(signature(method));
                Checks.due(method.getName() + " is public alone", method.getModifiers(), Modifier.PUBLIC);
            }
        }
        Checks.due("the public methods", found, new TreeSet<>(FACE));
        for (String one : FACE) {
            String name = one.substring(one.indexOf(' ') + 1, one.indexOf('('));
            Checks.due("a private method has the name " + name, hidden.contains(name), false);
        }
        for (Field field : type.getDeclaredFields()) {
            boolean isConstant = Set.of("NONE", "HIDDEN").contains(field.getName());
            int shown = field.getModifiers() & (Modifier.PUBLIC | Modifier.PRIVATE | Modifier.PROTECTED);
            Checks.due("who sees " + field.getName(), shown, isConstant ? Modifier.PUBLIC : Modifier.PRIVATE);
        }
        Constructor<?>[] constructors = type.getDeclaredConstructors();
        Checks.due("constructors", constructors.length, 1);
        Checks.due("its parameters", constructors[0].getParameterCount(), 0);
    }

    private static String signature(Method method) {
        StringBuilder text = new StringBuilder(method.getReturnType().getSimpleName()).append(' ');
        text.append(method.getName()).append('(');
        text.append(String.join(",", Arrays.stream(method.getParameterTypes()).map(Class::getSimpleName).toList()));
        text.append(')');
        Class<?>[] thrown = method.getExceptionTypes();
        if (thrown.length > 0) {
            text.append(" throws ");
            text.append(String.join(" ", Arrays.stream(thrown).map(Class::getSimpleName).toList()));
        }
        return text.toString();
    }

    private static void language() throws Exception {
        String source = Files.readString(Path.of("src/main/java/SightReducer.java"));
        String code = source.replaceAll("(?s)/\\*.*?\\*/", "").replaceAll("//[^\n]*", "");
        for (String word : RULED_OUT) {
            Matcher matcher = Pattern.compile(word, Pattern.MULTILINE).matcher(code);
            Checks.due("the source has " + word, matcher.find() ? matcher.group() : "", "");
        }
        Checks.due("classes", Pattern.compile("\\bclass\\b").matcher(code).results().count() <= 12, true);
        String[] lines = code.split("\n");
        int start = 0;
        for (int i = 0; i < lines.length; i++) {
            if (lines[i].matches(" {4}(?: {4})?\\w.*\\{")) {
                start = i;
            }
            boolean isMethod = lines[i].matches(" {4}(?: {4})?\\}") && !lines[start].contains(" class ");
            Checks.due("lines of " + lines[start].trim(), isMethod && i - start > 60, false);
        }
    }

    /** The room of a run: what an object holds once, and nothing that grows with the calls. */
    private static void room() {
        SightReducer x = new SightReducer();
        StringBuilder text = new StringBuilder("start 100 100;body east 0 18000;body north 3600 0;body mid 1800 18000;");
        for (int i = 0; i < 12; i++) {
            text.append("sight ").append(i % 3 == 0 ? "east" : i % 3 == 1 ? "north" : "mid").append(" 9 180").append(i % 10).append(';');
        }
        Checks.due("12 sights", Checks.load(x, text.toString()), 12);
        com.sun.management.ThreadMXBean counter =
                (com.sun.management.ThreadMXBean) java.lang.management.ManagementFactory.getThreadMXBean();
        for (int warm = 0; warm < 5; warm++) {
            allCalls(x);
        }
        long before = counter.getCurrentThreadAllocatedBytes();
        allCalls(x);
        long bytes = counter.getCurrentThreadAllocatedBytes() - before;
        Checks.due("bytes made by a call of each kind: " + bytes, bytes < 2000, true);
    }

    private static void allCalls(SightReducer x) {
        x.feed(0x6d616e79, 0x206e6f74, 0x20617761, 0x793d303b, 0x20202020);
        x.query(15);
        x.sight(0, 8);
        x.hat(0, 1, 2, 9, 0);
        x.smallestHat(9);
        x.isInside(0, 1, 2, 9, 0, 0);
        x.worst(9);
        x.meanResidual(9);
        x.meanIntercept();
        x.unknownCurrent(9, false);
        x.format(0);
        x.drop(0);
        x.undo();
        x.saveSnapshot();
        x.restoreSnapshot();
    }
}
