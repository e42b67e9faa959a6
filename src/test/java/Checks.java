import java.nio.charset.StandardCharsets;
import java.util.NoSuchElementException;

/** Counts the answers that are not as due, and feeds texts. */
final class Checks {
    interface Call {
        Object make();
    }

    private static final Class<?> ILLEGAL = IllegalArgumentException.class;
    private static final Class<?> MISSING = NoSuchElementException.class;
    private static int made = 0;
    private static int wrong = 0;

    private Checks() {
    }

    static void due(String call, Object got, Object want) {
        made++;
        if (!got.equals(want)) {
            wrong++;
            System.out.println(call + " answered " + got + ", due is " + want);
        }
    }

    static void illegal(String call, Call refused) {
        refuses(call, refused, ILLEGAL);
    }

    static void missing(String call, Call refused) {
        refuses(call, refused, MISSING);
    }

    private static void refuses(String call, Call refused, Class<?> want) {
        Object got;
        try {
            got = refused.make();
        } catch (RuntimeException e) {
            got = e.getClass();
        }
        due(call, got, want);
    }

    static void finish(String name) {
        System.out.println(name + ": " + made + " checks, " + wrong + " wrong");
        if (wrong != 0 || made == 0) {
            System.exit(1);
        }
    }

    /** Feeds a text and the spaces that its last 20 bytes need. */
    static void feed(SightReducer x, String text) {
        byte[] bytes = text.getBytes(StandardCharsets.ISO_8859_1);
        for (int from = 0; from < bytes.length; from += 20) {
            int[] fours = new int[5];
            for (int i = 0; i < 20; i++) {
                int one = from + i < bytes.length ? bytes[from + i] & 255 : ' ';
                fours[i / 4] = fours[i / 4] << 8 | one;
            }
            x.feed(fours[0], fours[1], fours[2], fours[3], fours[4]);
        }
    }

    static int load(SightReducer x, String text) {
        feed(x, text);
        return x.load(text.length());
    }

    static int query(SightReducer x, String text) {
        feed(x, text);
        return x.query(text.length());
    }

    static String formatted(SightReducer x) {
        StringBuilder text = new StringBuilder();
        for (int i = 0; x.formattedByte(i) != SightReducer.NONE; i++) {
            text.append((char) x.formattedByte(i));
        }
        return text.toString();
    }

    /** Everything that can be asked without changing anything, but for lines carried and fixes. */
    static String everything(SightReducer x) {
        StringBuilder all = new StringBuilder();
        for (int what = 0; what <= 8; what++) {
            all.append(x.told(what)).append(' ');
        }
        row(all, x, 'b', x.told(0), 4);
        row(all, x, 'l', x.told(1), 3);
        row(all, x, 's', x.told(2), 9);
        all.append(x.displacement(5000, true)).append(' ').append(x.displacement(5000, false)).append(' ');
        all.append(x.undoCount()).append(' ').append(x.errorPosition()).append(' ').append(formatted(x));
        return all.toString();
    }

    private static void row(StringBuilder all, SightReducer x, char kind, int count, int properties) {
        for (int i = 0; i < count; i++) {
            all.append('/');
            for (int what = 0; what < properties; what++) {
                int value = kind == 'b' ? x.body(i, what) : kind == 'l' ? x.leg(i, what) : x.sight(i, what);
                all.append(value).append(' ');
            }
        }
    }
}
