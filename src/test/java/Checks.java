import java.lang.reflect.InvocationTargetException;
import java.lang.reflect.Method;
import java.lang.reflect.Modifier;
import java.nio.ByteBuffer;
import java.nio.charset.StandardCharsets;
import java.util.ArrayList;
import java.util.Arrays;
import java.util.Comparator;
import java.util.List;
import java.util.NoSuchElementException;

/** Counts the answers that are not as due, runs the tests of a class, and feeds texts. */
final class Checks {
    interface Call {
        Object make();
    }

    private static final Class<?> ILLEGAL = IllegalArgumentException.class;
    private static final Class<?> MISSING = NoSuchElementException.class;
    private static int made = 0;
    private static int wrong = 0;
    private static String test = "";

    private Checks() {
    }

    static void due(String call, Object got, Object want) {
        made++;
        if (!got.equals(want)) {
            wrong++;
            System.out.println(test + call + " answered " + got + ", due is " + want);
        }
    }

    static void illegal(String call, Call refused) {
        refuses(call, refused, ILLEGAL);
    }

    static void missing(String call, Call refused) {
        refuses(call, refused, MISSING);
    }

    private static void refuses(String call, Call refused, Class<?> want) {
        Object got;
        try {
            got = refused.make();
        } catch (RuntimeException e) {
            got = e.getClass();
        }
        due(call, got, want);
    }

    /** Calls each method of a class that is not private and has no parameters: these are its tests. */
    static void runAll(Class<?> tests) throws IllegalAccessException {
        Method[] methods = tests.getDeclaredMethods();
        Arrays.sort(methods, Comparator.comparing(Method::getName));
        for (Method method : methods) {
            if (!Modifier.isPrivate(method.getModifiers()) && method.getParameterCount() == 0 && !method.isSynthetic()) {
                run(method);
            }
        }
        finish(tests.getSimpleName());
    }

    private static void run(Method method) throws IllegalAccessException {
        int before = made;
        test = method.getName() + ": ";
        try {
            method.invoke(null);
        } catch (InvocationTargetException e) {
            due("the test itself", e.getCause(), "");
        }
        due("the test checks something", made > before, true);
        test = "";
    }

    static void finish(String name) {
        System.out.println(name + ": " + made + " checks, " + wrong + " wrong");
        if (wrong != 0 || made == 0) {
            System.exit(1);
        }
    }

    /** The parameters of the calls of feed that append a text and the spaces that its last 20 bytes need. */
    static List<Object[]> feeds(String text) {
        byte[] bytes = text.getBytes(StandardCharsets.ISO_8859_1);
        List<Object[]> feeds = new ArrayList<>();
        for (int from = 0; from < bytes.length; from += 20) {
            byte[] twenty = new byte[20];
            Arrays.fill(twenty, (byte) ' ');
            System.arraycopy(bytes, from, twenty, 0, Math.min(20, bytes.length - from));
            ByteBuffer fours = ByteBuffer.wrap(twenty);
            feeds.add(new Object[] {fours.getInt(), fours.getInt(), fours.getInt(), fours.getInt(), fours.getInt()});
        }
        return feeds;
    }

    static void feed(SightReducer x, String text) {
        for (Object[] five : feeds(text)) {
            x.feed((Integer) five[0], (Integer) five[1], (Integer) five[2], (Integer) five[3], (Integer) five[4]);
        }
    }

    static int load(SightReducer x, String text) {
        feed(x, text);
        return x.load(text.length());
    }

    static SightReducer loaded(String text) {
        SightReducer x = new SightReducer();
        due("loading " + text + " went well", load(x, text) >= 0, true);
        return x;
    }

    static int query(SightReducer x, String text) {
        feed(x, text);
        return x.query(text.length());
    }

    static String formatted(SightReducer x) {
        StringBuilder text = new StringBuilder();
        for (int i = 0; x.formattedByte(i) != SightReducer.NONE; i++) {
            text.append((char) x.formattedByte(i));
        }
        return text.toString();
    }

    /** What a text tells and operations change, and the formatted text. */
    static String everything(SightReducer x) {
        StringBuilder all = new StringBuilder();
        for (int what = 0; what <= 8; what++) {
            all.append(x.told(what)).append(' ');
        }
        row(all, x, 'b', x.told(0), 4);
        row(all, x, 'l', x.told(1), 3);
        row(all, x, 's', x.told(2), 9);
        all.append(x.displacement(5000, true)).append(' ').append(x.displacement(5000, false)).append(' ');
        return all.append(formatted(x)).toString();
    }

    private static void row(StringBuilder all, SightReducer x, char kind, int count, int properties) {
        for (int i = 0; i < count; i++) {
            all.append('/');
            for (int what = 0; what < properties; what++) {
                int value = kind == 'b' ? x.body(i, what) : kind == 'l' ? x.leg(i, what) : x.sight(i, what);
                all.append(value).append(' ');
            }
        }
    }
}
