import java.lang.reflect.InvocationTargetException;
import java.lang.reflect.Method;
import java.util.HashMap;
import java.util.Map;

/** Runs of calls, made by a counter alone and so always the same, against the model of the document. */
public final class ModelTest {
    private static final int RUNS = 1500;
    private static final int CALLS = 260;
    private static final String[] NAMES = {"sun", "moon", "star", "vega", "x", "polarisb", "sight", "start", "toolonger"};
    private static final String[] PIECES = {"start", "eye", "index", "current", "body", "leg", "sight", ";", "-", "0",
        "5", "60", "61", "300", "3601", "21599", "21600", "sun", "moon", "x", "many", "first", "not", "(", ")", "and",
        "or", "<", "=", ">", "time", "altitude", "expected", "azimuth", "away", "99999", "100000", "A", "\t", "\u00ff",
        "00000000000000000000007", "4294967299", "toolonger", " ", "\n"};

    private final Map<String, Method> ofReducer = methods(SightReducer.class);
    private final Map<String, Method> ofModel = methods(Model.class);
    private final Map<String, Integer> answers = new HashMap<>();
    private long seed;
    private SightReducer reducer;
    private Model model;
    private StringBuilder trace;

    public static void main(String[] args) {
        ModelTest test = new ModelTest();
        for (int run = 0; run < RUNS; run++) {
            test.run(run);
        }
        test.answers.forEach((call, count) -> Checks.due(call + " was called often", count > 200, true));
        Checks.finish("ModelTest");
    }

    private static Map<String, Method> methods(Class<?> owner) {
        Map<String, Method> found = new HashMap<>();
        for (Method method : owner.getDeclaredMethods()) {
            if (java.lang.reflect.Modifier.isPublic(method.getModifiers())) {
                found.put(method.getName(), method);
            }
        }
        return found;
    }

    /** A linear congruence after Knuth: the tests need many cases, not chance. */
    private int pick(int count) {
        seed = seed * 6364136223846793005L + 1442695040888963407L;
        return (int) Math.floorMod(seed >>> 33, (long) count);
    }

    private int between(int low, int high) {
        return low + pick(high - low + 1);
    }

    private int oneOf(int... values) {
        return values[pick(values.length)];
    }

    /** A number in a range, its ends being likely; now and then one outside of it. */
    private int around(int low, int high) {
        int way = pick(20);
        if (way == 0) {
            return oneOf(low - 1, high + 1, Integer.MIN_VALUE, Integer.MAX_VALUE, low, high);
        }
        return way < 4 ? oneOf(low, high) : between(low, high);
    }

    private void run(int run) {
        seed = run;
        reducer = new SightReducer();
        model = new Model();
        trace = new StringBuilder();
        for (int call = 0; call < CALLS; call++) {
            int way = pick(40);
            if (call == 0 && run % 10 != 0 || way == 0) {
                text("load", text());
            } else if (way < 4) {
                text("query", question());
            } else {
                single();
            }
            if (call % 20 == 19) {
                sweep();
            }
        }
    }

    private void both(String name, Object... args) {
        answers.merge(name, 1, Integer::sum);
        Object got = answer(ofReducer, reducer, name, args);
        Object want = answer(ofModel, model, name, args);
        trace.append(name).append(java.util.Arrays.toString(args)).append('\n');
        Checks.due(got.equals(want) ? name : trace.toString(), got, want);
    }

    private static Object answer(Map<String, Method> methods, Object owner, String name, Object... args) {
        try {
            Object answer = methods.get(name).invoke(owner, args);
            return answer == null ? "nothing" : answer;
        } catch (InvocationTargetException e) {
            return e.getCause().getClass().getName();
        } catch (IllegalAccessException e) {
            throw new IllegalStateException(e);
        }
    }

    private void sweep() {
        for (int what = 0; what <= 8; what++) {
            both("told", what);
        }
        for (int i = 0; i < model.told(0); i++) {
            for (int what = 0; what < 4; what++) {
                both("body", i, what);
            }
        }
        for (int i = 0; i < model.told(1); i++) {
            for (int what = 0; what < 3; what++) {
                both("leg", i, what);
            }
        }
        for (int i = 0; i < model.told(2); i++) {
            for (int what = 0; what <= 8; what++) {
                both("sight", i, what);
            }
        }
        both("undoCount");
        both("errorPosition");
    }

    private int sight() {
        return pick(20) == 0 ? oneOf(-1, model.told(2), Integer.MIN_VALUE, Integer.MAX_VALUE)
                : pick(Math.max(1, model.told(2)));
    }

    private int time() {
        return pick(3) == 0 ? oneOf(0, 1, 60, 100, 5000) : around(0, 5000);
    }

    private int body() {
        return pick(20) == 0 ? oneOf(-1, model.told(0), Integer.MAX_VALUE) : pick(Math.max(1, model.told(0)));
    }

    private boolean coin() {
        return pick(2) == 0;
    }

    private void single() {
        switch (pick(34)) {
            case 0 -> both("sine", pick(3) == 0 ? between(Integer.MIN_VALUE / 2, Integer.MAX_VALUE / 2) * 2
                    : around(-30000, 30000));
            case 1 -> both("arc", around(-1000000, 1000000));
            case 2 -> both("told", around(0, 8));
            case 3 -> both("body", body(), around(0, 3));
            case 4 -> both("leg", around(0, 7), around(0, 2));
            case 5 -> both("displacement", time(), coin());
            case 6 -> both("reckoned", time(), coin());
            case 7 -> both("sight", sight(), around(0, 8));
            case 8 -> both("carried", sight(), time());
            case 9 -> both("crossing", sight(), sight(), time(), coin());
            case 10, 11 -> both("hat", sight(), sight(), sight(), time(), around(0, 2));
            case 12 -> both("smallestHat", time());
            case 13 -> both("isInside", sight(), sight(), sight(), time(), around(-1000000, 1000000),
                    around(-1000000, 1000000));
            case 14 -> insideNear(sight(), sight(), sight(), time());
            case 15 -> both("fix", time(), coin());
            case 16 -> both("residual", sight(), time());
            case 17 -> both("worst", time());
            case 18 -> both("offCourse", time());
            case 19 -> both("unknownCurrent", time(), coin());
            case 20 -> both("meanResidual", time());
            case 21 -> both("meanIntercept");
            case 22, 23 -> both("observe", body(), time(), around(300, 5100));
            case 24 -> both("drop", sight());
            case 25 -> both("steer", time(), around(0, 21599), around(0, 400));
            case 26 -> both("setCurrent", around(0, 21599), around(0, 100));
            case 27 -> both("correct", around(0, 50), around(-60, 60));
            case 28 -> both("format", sight());
            case 29 -> both("formattedByte", around(0, 30));
            case 30 -> both("undo");
            case 31 -> both(pick(3) == 0 ? "restoreSnapshot" : "undoCount");
            case 32 -> both("saveSnapshot");
            default -> rest();
        }
    }

    private void rest() {
        switch (pick(4)) {
            case 0 -> both("errorPosition");
            case 1 -> both("load", oneOf(-1, 701, 700, 21, 3, Integer.MIN_VALUE, Integer.MAX_VALUE));
            case 2 -> both("query", oneOf(-1, 201, 200, 21, 3, Integer.MIN_VALUE, Integer.MAX_VALUE));
            default -> both("feed", pick(1000), -pick(1000), 0x20202020, Integer.MIN_VALUE, 0x61623132);
        }
    }

    /** Asks at corners, on borders and in the middle of a hat, where a place seldom falls otherwise. */
    private void insideNear(int one, int two, int three, int time) {
        Object east = answer(ofModel, model, "hat", one, two, three, time, 1);
        Object north = answer(ofModel, model, "hat", one, two, three, time, 2);
        Object cornerEast = answer(ofModel, model, "crossing", one, two, time, false);
        Object cornerNorth = answer(ofModel, model, "crossing", one, two, time, true);
        if (east instanceof Integer && !east.equals(Model.HIDDEN)) {
            both("isInside", one, two, three, time, east, north);
            both("isInside", one, two, three, time, cornerEast, cornerNorth);
            both("isInside", one, two, three, time, (Integer) cornerEast + oneOf(-1, 0, 1), cornerNorth);
            both("isInside", one, two, three, time, ((Integer) east + (Integer) cornerEast) / 2,
                    ((Integer) north + (Integer) cornerNorth) / 2);
        }
    }

    /** Feeds a text, in a third of the cases made wrong, and reads it unless the call is to be left out. */
    private void text(String name, String right) {
        String text = pick(3) == 0 ? mutated(right, 1 + pick(3)) : right;
        trace.append('"').append(text).append("\"\n");
        for (Object[] five : Checks.feeds(text)) {
            both("feed", five);
        }
        if (pick(30) != 0) {
            both(name, pick(30) == 0 ? pick(text.length() + 1) : text.length());
            both("errorPosition");
        }
    }

    private String mutated(String text, int times) {
        StringBuilder changed = new StringBuilder(text);
        for (int i = 0; i < times; i++) {
            int at = pick(changed.length() + 1);
            int end = Math.min(changed.length(), at + pick(4));
            changed.replace(at, end, pick(3) == 0 ? "" : PIECES[pick(PIECES.length)]);
        }
        return changed.toString();
    }

    private String gap() {
        return pick(12) == 0 ? "\n" : pick(12) == 0 ? "  " : " ";
    }

    private String minus() {
        return pick(3) == 0 ? "-" : "";
    }

    /** A text that is right but for a rare number or name; its bodies stand high often enough for hats. */
    private String text() {
        StringBuilder text = new StringBuilder();
        int bodies = pick(7) + (pick(20) == 0 ? 1 : 0);
        int legs = pick(5) == 0 ? 8 + (pick(4) == 0 ? 1 : 0) : pick(4);
        int sights = pick(5) == 0 ? 12 + (pick(4) == 0 ? 1 : 0) : pick(8);
        if (pick(3) != 0) {
            text.append("start").append(gap()).append(minus()).append(rarely(3600)).append(gap()).append(minus())
                    .append(rarely(10799)).append(";");
        }
        if (coin()) {
            text.append("eye").append(gap()).append(rarely(50)).append(";");
        }
        if (coin()) {
            text.append("index").append(gap()).append(minus()).append(rarely(60)).append(gap()).append(";");
        }
        if (coin()) {
            text.append("current").append(gap()).append(rarely(21599)).append(' ').append(rarely(100)).append(";");
        }
        for (int i = 0; i < bodies; i++) {
            text.append("body").append(gap()).append(NAMES[pick(30) == 0 ? pick(NAMES.length) : i]).append(' ')
                    .append(minus()).append(rarely(3600)).append(gap()).append(rarely(21599)).append(";");
        }
        int time = pick(2) * pick(100);
        for (int i = 0; i < legs; i++) {
            text.append("leg").append(gap()).append(time).append(' ').append(rarely(21599)).append(' ')
                    .append(rarely(400)).append(";");
            time += pick(40) == 0 ? 0 : 1 + pick(300);
        }
        for (int i = 0; i < sights && bodies > 0; i++) {
            text.append("sight").append(gap()).append(NAMES[pick(60) == 0 ? pick(NAMES.length) : pick(bodies)])
                    .append(' ').append(pick(4) == 0 ? 5000 : pick(600)).append(' ').append(between(300, 5100))
                    .append(";");
        }
        if (pick(6) == 0) {
            text.append(" eye 7; start 1 -1;index-0;current 1 2;");
        }
        return text.toString();
    }

    private String rarely(int most) {
        int number = pick(60) == 0 ? most + 1 : pick(10) == 0 ? most : pick(10) == 0 ? 0 : pick(most + 1);
        return pick(20) == 0 ? "000" + number : String.valueOf(number);
    }

    private String question() {
        String text = (coin() ? "many " : "first ") + test(pick(6));
        return text.length() > 200 && pick(4) != 0 ? "many away>5" : text;
    }

    private String test(int depth) {
        String text = factor(depth);
        for (int i = pick(3); i > 0; i--) {
            text += (coin() ? " and " : " or ") + factor(depth - 1);
        }
        return text;
    }

    private String factor(int depth) {
        int way = depth <= 0 ? 0 : pick(5);
        if (way == 1) {
            return "(" + test(depth - 1) + ")";
        }
        if (way == 2) {
            return "not " + factor(depth - 1);
        }
        if (way == 3 && pick(4) == 0) {
            return "not ".repeat(pick(8)) + "(".repeat(1) + test(depth - 2) + ")";
        }
        return value() + "<=>".charAt(pick(3)) + value();
    }

    private String value() {
        String[] properties = {"sight", "body", "time", "altitude", "expected", "azimuth", "away"};
        return coin() ? properties[pick(7)] : rarely(oneOf(5, 12, 600, 5100, 21600, 99999));
    }
}
