import java.math.BigInteger;
import java.nio.charset.StandardCharsets;
import java.util.ArrayDeque;
import java.util.ArrayList;
import java.util.Arrays;
import java.util.Deque;
import java.util.HashMap;
import java.util.List;
import java.util.Map;
import java.util.NoSuchElementException;
import java.util.function.IntPredicate;
import java.util.function.IntUnaryOperator;
import java.util.regex.Matcher;
import java.util.regex.Pattern;

/**
 * The document once more, in the Java library's own means and without a thought for speed or room,
 * so that ModelTest can compare answers. Its methods bear the names of the public face.
 */
public final class Model {
    static final int NONE = -1;
    static final int HIDDEN = -1000000000;
    private static final int[] ARCS = arcs();

    /** What undoing restores: immutable lists, so that a copy of the references is enough. */
    private record State(List<int[]> legs, List<int[]> sights, int set, int drift, int height, int index) {
        State legs(List<int[]> now) {
            return new State(now, sights, set, drift, height, index);
        }

        State sights(List<int[]> now) {
            return new State(legs, now, set, drift, height, index);
        }
    }

    private record Token(int position, String text) {
    }

    private record Reduced(int apparent, int observed, int expected, int azimuth, long offset) {
        int intercept() {
            return observed - expected;
        }
    }

    private record Point(long x, long y) {
    }

    private static final class TextError extends RuntimeException {
        private static final long serialVersionUID = 1;
        final int code;
        final int position;

        TextError(int code, int position) {
            this.code = code;
            this.position = position;
        }
    }

    private static final State EMPTY = new State(List.of(), List.of(), 0, 0, 0, 0);

    private byte[] buffer = new byte[0];
    private int errorAt = NONE;
    private int latitude = 0;
    private int longitude = 0;
    private List<String> names = List.of();
    private List<int[]> bodies = List.of();
    private State state = EMPTY;
    private State snapshot = null;
    private Deque<State> history = new ArrayDeque<>();
    private String formatted = "";

    // ---- numbers ----

    private static int[] arcs() {
        int[] arcs = new int[1000001];
        int angle = 0;
        for (int value = 0; value <= 1000000; value++) {
            while (angle < 5400 && sin(angle + 1) <= value) {
                angle++;
            }
            arcs[value] = angle;
        }
        return arcs;
    }

    private static long div(long a, long b) {
        return div(BigInteger.valueOf(a), BigInteger.valueOf(b)).longValueExact();
    }

    private static BigInteger div(BigInteger a, BigInteger b) {
        BigInteger[] parts = a.divideAndRemainder(b);
        boolean isBelow = parts[1].signum() != 0 && parts[1].signum() != b.signum();
        return isBelow ? parts[0].subtract(BigInteger.ONE) : parts[0];
    }

    private static long sin(long angle) {
        long d = ((angle % 21600) + 21600) % 21600;
        if (d > 10800) {
            return -sin(d - 10800);
        }
        long x = d * (10800 - d);
        return 4000000 * x / (145800000 - x);
    }

    private static long cos(long angle) {
        return sin(angle + 5400);
    }

    private static int asin(long value) {
        return value < 0 ? -ARCS[(int) -value] : ARCS[(int) value];
    }

    private static long mul(long a, long b) {
        return div(a * b, 1000000);
    }

    private static long clamp(long value) {
        return value > 1000000 ? 1000000 : value < -1000000 ? -1000000 : value;
    }

    private static long clamp(BigInteger value) {
        return value.bitLength() > 60 ? value.signum() * 1000000L : clamp(value.longValueExact());
    }

    private static long wrap(long angle) {
        long turned = angle;
        while (turned > 10799) {
            turned -= 21600;
        }
        while (turned < -10800) {
            turned += 21600;
        }
        return turned;
    }

    private static int sqrt(long value) {
        return BigInteger.valueOf(value).sqrt().intValueExact();
    }

    private static void argument(boolean isRight) {
        if (!isRight) {
            throw new IllegalArgumentException();
        }
    }

    private static void element(boolean isThere) {
        if (!isThere) {
            throw new NoSuchElementException();
        }
    }

    private static void time(int time) {
        argument(time >= 0 && time <= 5000);
    }

    private static boolean in(int value, int low, int high) {
        return value >= low && value <= high;
    }

    private void isSight(int... numbers) {
        for (int number : numbers) {
            element(in(number, 0, state.sights.size() - 1));
        }
    }

    // ---- buffer and text ----

    public int feed(int a, int b, int c, int d, int e) {
        if (buffer.length + 20 > 700) {
            return NONE;
        }
        byte[] longer = Arrays.copyOf(buffer, buffer.length + 20);
        java.nio.ByteBuffer.wrap(longer, buffer.length, 20).putInt(a).putInt(b).putInt(c).putInt(d).putInt(e);
        buffer = longer;
        return buffer.length;
    }

    private Deque<Token> tokens(int length) {
        String text = new String(buffer, 0, length, StandardCharsets.ISO_8859_1);
        buffer = new byte[0];
        errorAt = NONE;
        Deque<Token> tokens = new ArrayDeque<>();
        Matcher matcher = Pattern.compile("[a-z]+|[0-9]+|[^ \n]", Pattern.DOTALL).matcher(text);
        while (matcher.find()) {
            tokens.add(new Token(matcher.start(), matcher.group()));
        }
        tokens.add(new Token(length, ""));
        return tokens;
    }

    private static boolean isWord(Token token) {
        return token.text.matches("[a-z]+");
    }

    private static int number(Deque<Token> tokens, int low, int high, int above) {
        Token token = tokens.remove();
        if (!token.text.matches("[0-9]+")) {
            throw new TextError(1, token.position);
        }
        BigInteger value = new BigInteger(token.text);
        if (value.compareTo(BigInteger.valueOf(low)) < 0 || value.compareTo(BigInteger.valueOf(high)) > 0) {
            throw new TextError(2, token.position);
        }
        if (value.intValueExact() <= above) {
            throw new TextError(5, token.position);
        }
        return value.intValueExact();
    }

    private static int signed(Deque<Token> tokens, int high) {
        if (tokens.element().text.equals("-")) {
            tokens.remove();
            return -number(tokens, 0, high, NONE);
        }
        return number(tokens, 0, high, NONE);
    }

    private static void exactly(Deque<Token> tokens, String text) {
        Token token = tokens.remove();
        if (!token.text.equals(text)) {
            throw new TextError(1, token.position);
        }
    }

    private static void room(Token keyword, int count, int most) {
        if (count == most) {
            throw new TextError(3, keyword.position);
        }
    }

    public int load(int length) {
        argument(in(length, 0, buffer.length));
        Deque<Token> tokens = tokens(length);
        Map<String, int[]> settings = new HashMap<>();
        List<String> newNames = new ArrayList<>();
        List<int[]> newBodies = new ArrayList<>();
        List<int[]> legs = new ArrayList<>();
        List<int[]> sights = new ArrayList<>();
        try {
            while (tokens.size() > 1) {
                Token word = tokens.remove();
                switch (word.text) {
                    case "start" -> settings.put("start", new int[] {signed(tokens, 3600), signed(tokens, 10799)});
                    case "eye" -> settings.put("eye", new int[] {number(tokens, 0, 50, NONE)});
                    case "index" -> settings.put("index", new int[] {signed(tokens, 60)});
                    case "current" -> settings.put("current",
                            new int[] {number(tokens, 0, 21599, NONE), number(tokens, 0, 100, NONE)});
                    case "body" -> {
                        room(word, newBodies.size(), 6);
                        Token name = tokens.remove();
                        if (!isWord(name) || name.text.length() > 8) {
                            throw new TextError(1, name.position);
                        }
                        if (newNames.contains(name.text)) {
                            throw new TextError(4, name.position);
                        }
                        newBodies.add(new int[] {signed(tokens, 3600), number(tokens, 0, 21599, NONE)});
                        newNames.add(name.text);
                    }
                    case "leg" -> {
                        room(word, legs.size(), 8);
                        int above = legs.isEmpty() ? NONE : legs.get(legs.size() - 1)[0];
                        legs.add(new int[] {number(tokens, 0, 5000, above), number(tokens, 0, 21599, NONE),
                            number(tokens, 0, 400, NONE)});
                    }
                    case "sight" -> {
                        room(word, sights.size(), 12);
                        Token name = tokens.remove();
                        if (!newNames.contains(name.text)) {
                            throw new TextError(isWord(name) ? 4 : 1, name.position);
                        }
                        sights.add(new int[] {newNames.indexOf(name.text), number(tokens, 0, 5000, NONE),
                            number(tokens, 300, 5100, NONE)});
                    }
                    default -> throw new TextError(1, word.position);
                }
                exactly(tokens, ";");
            }
        } catch (TextError e) {
            errorAt = e.position;
            return -10 - e.code;
        }
        int[] start = settings.getOrDefault("start", new int[2]);
        int[] current = settings.getOrDefault("current", new int[2]);
        latitude = start[0];
        longitude = start[1];
        names = newNames;
        bodies = newBodies;
        state = new State(legs, sights, current[0], current[1], settings.getOrDefault("eye", new int[1])[0],
                settings.getOrDefault("index", new int[1])[0]);
        history.clear();
        snapshot = null;
        return sights.size();
    }

    public int errorPosition() {
        return errorAt;
    }

    // ---- queries ----

    private int open;

    private IntPredicate test(Deque<Token> tokens) {
        IntPredicate all = conjunction(tokens);
        while (tokens.element().text.equals("or")) {
            tokens.remove();
            all = all.or(conjunction(tokens));
        }
        return all;
    }

    private IntPredicate conjunction(Deque<Token> tokens) {
        IntPredicate all = factor(tokens);
        while (tokens.element().text.equals("and")) {
            tokens.remove();
            all = all.and(factor(tokens));
        }
        return all;
    }

    private IntPredicate factor(Deque<Token> tokens) {
        Token token = tokens.element();
        if (token.text.equals("not") || token.text.equals("(")) {
            room(token, open, 6);
            open++;
            tokens.remove();
            IntPredicate inner;
            if (token.text.equals("not")) {
                inner = factor(tokens).negate();
            } else {
                inner = test(tokens);
                exactly(tokens, ")");
            }
            open--;
            return inner;
        }
        IntUnaryOperator left = value(tokens);
        Token sign = tokens.remove();
        if (!List.of("<", "=", ">").contains(sign.text)) {
            throw new TextError(1, sign.position);
        }
        IntUnaryOperator right = value(tokens);
        return sight -> {
            int one = left.applyAsInt(sight);
            int other = right.applyAsInt(sight);
            return sign.text.equals("<") ? one < other : sign.text.equals(">") ? one > other : one == other;
        };
    }

    private IntUnaryOperator value(Deque<Token> tokens) {
        Token token = tokens.element();
        if (isWord(token)) {
            tokens.remove();
        }
        switch (token.text) {
            case "sight":
                return sight -> sight;
            case "body":
                return sight -> state.sights.get(sight)[0];
            case "time":
                return sight -> state.sights.get(sight)[1];
            case "altitude":
                return sight -> reduce(sight).observed;
            case "expected":
                return sight -> reduce(sight).expected;
            case "azimuth":
                return sight -> reduce(sight).azimuth;
            case "away":
                return sight -> Math.abs(reduce(sight).intercept());
            default:
                if (isWord(token)) {
                    throw new TextError(1, token.position);
                }
                int number = number(tokens, 0, 99999, NONE);
                return sight -> number;
        }
    }

    public int query(int length) {
        argument(in(length, 0, Math.min(200, buffer.length)));
        Deque<Token> tokens = tokens(length);
        Token quantity = tokens.remove();
        IntPredicate test;
        try {
            if (!List.of("many", "first").contains(quantity.text)) {
                throw new TextError(1, quantity.position);
            }
            open = 0;
            test = test(tokens);
            exactly(tokens, "");
        } catch (TextError e) {
            errorAt = e.position;
            return HIDDEN - e.code;
        }
        int many = 0;
        int first = NONE;
        for (int sight = state.sights.size() - 1; sight >= 0; sight--) {
            if (test.test(sight)) {
                many++;
                first = sight;
            }
        }
        return quantity.text.equals("many") ? many : first;
    }

    // ---- asking ----

    public int sine(int angle) {
        return (int) sin(angle);
    }

    public int arc(int value) {
        argument(in(value, -1000000, 1000000));
        return asin(value);
    }

    public int told(int what) {
        element(in(what, 0, 8));
        return new int[] {bodies.size(), state.legs.size(), state.sights.size(), latitude, longitude,
            state.height, state.index, state.set, state.drift}[what];
    }

    public int body(int body, int what) {
        element(in(body, 0, bodies.size() - 1) && in(what, 0, 3));
        if (what == 3) {
            return (int) state.sights.stream().filter(sight -> sight[0] == body).count();
        }
        return what == 2 ? names.get(body).length() : bodies.get(body)[what];
    }

    public int leg(int leg, int what) {
        element(in(leg, 0, state.legs.size() - 1) && in(what, 0, 2));
        return state.legs.get(leg)[what];
    }

    private Point ship(int time) {
        long east = 0;
        long north = 0;
        for (int i = 0; i <= state.legs.size(); i++) {
            boolean isCurrent = i == state.legs.size();
            int[] leg = isCurrent ? new int[] {0, state.set, state.drift} : state.legs.get(i);
            boolean isLast = i + 1 >= state.legs.size();
            int end = isLast || time < state.legs.get(i + 1)[0] ? time : state.legs.get(i + 1)[0];
            if (end > leg[0]) {
                long way = (long) leg[2] * (end - leg[0]) / 6;
                east += div(way * sin(leg[1]), 1000000);
                north += div(way * cos(leg[1]), 1000000);
            }
        }
        return new Point(east, north);
    }

    private Point reckon(int time) {
        Point ship = ship(time);
        return new Point(wrap(longitude + div(ship.x * 10000, cos(latitude))), latitude + div(ship.y, 100));
    }

    public int displacement(int time, boolean north) {
        time(time);
        return (int) (north ? ship(time).y : ship(time).x);
    }

    public int reckoned(int time, boolean wantsLongitude) {
        time(time);
        return (int) (wantsLongitude ? reckon(time).x : reckon(time).y);
    }

    private Reduced reduce(int number) {
        int[] sight = state.sights.get(number);
        int[] body = bodies.get(sight[0]);
        int apparent = sight[2] + state.index - sqrt(3L * state.height);
        int observed = (int) (apparent - div(cos(apparent), sin(apparent)));
        long p = reckon(sight[1]).y;
        long q = reckon(sight[1]).x;
        long d = body[0];
        long t = body[1] + 15L * sight[1] + q;
        long sum = mul(sin(p), sin(d)) + mul(mul(cos(p), cos(d)), cos(t));
        int h = asin(clamp(sum));
        long divisor = mul(cos(p), cos(h));
        long c = divisor <= 0 ? 1000000 : clamp(div((sin(d) - mul(sin(p), sin(h))) * 1000000, divisor));
        int z = 5400 - asin(c);
        int azimuth = sin(t) <= 0 ? z : (21600 - z) % 21600;
        long e = div(wrap(q - longitude) * cos(latitude), 10000);
        long n = 100 * (p - latitude);
        long offset = div(e * sin(azimuth) + n * cos(azimuth), 1000000) + 100L * (observed - h);
        return new Reduced(apparent, observed, h, azimuth, offset);
    }

    public int sight(int sight, int what) {
        isSight(sight);
        element(in(what, 0, 8));
        Reduced r = reduce(sight);
        int[] told = state.sights.get(sight);
        return new int[] {told[0], told[1], told[2], r.apparent, r.observed, r.expected, r.azimuth, r.intercept(),
            (int) r.offset}[what];
    }

    // ---- lines: {sine, cosine, carried offset} ----

    private long[] line(int sight, int time) {
        Reduced r = reduce(sight);
        Point then = ship(time);
        Point before = ship(state.sights.get(sight)[1]);
        long s = sin(r.azimuth);
        long c = cos(r.azimuth);
        return new long[] {s, c, r.offset + div((then.x - before.x) * s + (then.y - before.y) * c, 1000000)};
    }

    private static BigInteger cross(long a, long d, long b, long c) {
        BigInteger first = BigInteger.valueOf(a).multiply(BigInteger.valueOf(d));
        return first.subtract(BigInteger.valueOf(b).multiply(BigInteger.valueOf(c)));
    }

    private static Point meet(long[] one, long[] two) {
        BigInteger million = BigInteger.valueOf(1000000);
        BigInteger determinant = cross(one[0], two[1], two[0], one[1]);
        if (determinant.abs().compareTo(BigInteger.TEN.pow(11)) < 0) {
            return null;
        }
        return new Point(clamp(div(cross(one[2], two[1], two[2], one[1]).multiply(million), determinant)),
                clamp(div(cross(two[2], one[0], one[2], two[0]).multiply(million), determinant)));
    }

    private static Point[] hatOf(long[] one, long[] two, long[] three) {
        Point[] corners = {meet(one, two), meet(one, three), meet(two, three)};
        return Arrays.asList(corners).contains(null) ? null : corners;
    }

    private static long area(Point[] c) {
        return Math.abs((c[1].x - c[0].x) * (c[2].y - c[0].y) - (c[2].x - c[0].x) * (c[1].y - c[0].y)) / 20000;
    }

    public int carried(int sight, int time) {
        isSight(sight);
        time(time);
        return (int) line(sight, time)[2];
    }

    public int crossing(int sight, int other, int time, boolean north) {
        isSight(sight, other);
        time(time);
        Point place = meet(line(sight, time), line(other, time));
        return place == null ? HIDDEN : (int) (north ? place.y : place.x);
    }

    public int hat(int one, int two, int three, int time, int what) {
        isSight(one, two, three);
        time(time);
        argument(in(what, 0, 2));
        Point[] c = hatOf(line(one, time), line(two, time), line(three, time));
        if (c == null) {
            return HIDDEN;
        }
        return (int) (what == 0 ? area(c) : what == 1 ? div(c[0].x + c[1].x + c[2].x, 3)
                : div(c[0].y + c[1].y + c[2].y, 3));
    }

    public int smallestHat(int time) {
        time(time);
        int count = state.sights.size();
        List<long[]> lines = new ArrayList<>();
        for (int i = 0; i < count; i++) {
            lines.add(line(i, time));
        }
        int found = NONE;
        long least = Long.MAX_VALUE;
        for (int code = 0; code < 121212; code++) {
            int one = code / 10000;
            int two = code / 100 % 100;
            int three = code % 100;
            if (one < two && two < three && three < count) {
                Point[] corners = hatOf(lines.get(one), lines.get(two), lines.get(three));
                if (corners != null && area(corners) < least) {
                    found = code;
                    least = area(corners);
                }
            }
        }
        return found;
    }

    private static int side(Point from, Point to, Point place) {
        return cross(to.x - from.x, place.y - from.y, place.x - from.x, to.y - from.y).signum();
    }

    public boolean isInside(int one, int two, int three, int time, int east, int north) {
        isSight(one, two, three);
        time(time);
        argument(in(east, -1000000, 1000000) && in(north, -1000000, 1000000));
        Point[] c = hatOf(line(one, time), line(two, time), line(three, time));
        Point place = new Point(east, north);
        for (int i = 0; c != null && i < 3; i++) {
            Point from = c[(i + 1) % 3];
            Point to = c[(i + 2) % 3];
            if (side(from, to, place) * side(from, to, c[i]) < 0) {
                return false;
            }
        }
        return c != null;
    }

    private Point fixOf(int time) {
        long a = 0;
        long b = 0;
        long c = 0;
        long p = 0;
        long q = 0;
        for (int i = 0; i < state.sights.size(); i++) {
            long[] line = line(i, time);
            a += mul(line[0], line[0]);
            b += mul(line[0], line[1]);
            c += mul(line[1], line[1]);
            p += mul(line[2], line[0]);
            q += mul(line[2], line[1]);
        }
        BigInteger determinant = cross(a, c, b, b);
        if (determinant.compareTo(BigInteger.TEN.pow(11)) < 0) {
            return null;
        }
        BigInteger thousand = BigInteger.valueOf(1000);
        BigInteger d = div(determinant, thousand);
        return new Point(clamp(div(cross(p, c, q, b).multiply(thousand), d)),
                clamp(div(cross(q, a, p, b).multiply(thousand), d)));
    }

    public int fix(int time, boolean north) {
        time(time);
        Point fix = fixOf(time);
        return fix == null ? HIDDEN : (int) (north ? fix.y : fix.x);
    }

    /** The residuals of all sights; null if there is no fix. */
    private long[] residuals(int time) {
        Point fix = fixOf(time);
        if (fix == null) {
            return null;
        }
        long[] all = new long[state.sights.size()];
        for (int i = 0; i < all.length; i++) {
            long[] line = line(i, time);
            all[i] = div(fix.x * line[0] + fix.y * line[1], 1000000) - line[2];
        }
        return all;
    }

    public int residual(int sight, int time) {
        isSight(sight);
        time(time);
        long[] all = residuals(time);
        return all == null ? HIDDEN : (int) all[sight];
    }

    public int worst(int time) {
        time(time);
        long[] all = residuals(time);
        if (all == null) {
            return NONE;
        }
        long greatest = Arrays.stream(all).map(Math::abs).max().getAsLong();
        for (int i = 0; true; i++) {
            if (Math.abs(all[i]) == greatest) {
                return i;
            }
        }
    }

    public int offCourse(int time) {
        time(time);
        Point fix = fixOf(time);
        Point ship = ship(time);
        return fix == null ? HIDDEN
                : sqrt((fix.x - ship.x) * (fix.x - ship.x) + (fix.y - ship.y) * (fix.y - ship.y));
    }

    public int unknownCurrent(int time, boolean drift) {
        argument(in(time, 1, 5000));
        int r = offCourse(time);
        if (r == HIDDEN) {
            return HIDDEN;
        }
        if (drift) {
            return (int) div(6L * r, time);
        }
        if (r == 0) {
            return 0;
        }
        long x = fixOf(time).x - ship(time).x;
        long y = fixOf(time).y - ship(time).y;
        int a = asin(Math.abs(x) * 1000000 / r);
        if (x >= 0 && y >= 0) {
            return a;
        }
        if (x >= 0) {
            return 10800 - a;
        }
        return y < 0 ? 10800 + a : (21600 - a) % 21600;
    }

    public double meanResidual(int time) {
        time(time);
        long[] all = residuals(time);
        return all == null ? 0 : (double) Arrays.stream(all).map(Math::abs).sum() / (double) all.length;
    }

    public float meanIntercept() {
        int sum = 0;
        for (int i = 0; i < state.sights.size(); i++) {
            sum += reduce(i).intercept();
        }
        return state.sights.isEmpty() ? 0 : (float) sum / (float) state.sights.size();
    }

    // ---- operations ----

    private void become(State next) {
        history.push(state);
        if (history.size() > 10) {
            history.removeLast();
        }
        state = next;
    }

    private static List<int[]> with(List<int[]> list, int... added) {
        List<int[]> longer = new ArrayList<>(list);
        longer.add(added);
        return longer;
    }

    public int observe(int body, int time, int altitude) {
        element(in(body, 0, bodies.size() - 1));
        time(time);
        argument(in(altitude, 300, 5100));
        if (state.sights.size() == 12) {
            return -2;
        }
        become(state.sights(with(state.sights, body, time, altitude)));
        return state.sights.size() - 1;
    }

    public int drop(int sight) {
        isSight(sight);
        List<int[]> shorter = new ArrayList<>(state.sights);
        shorter.remove(sight);
        become(state.sights(shorter));
        return shorter.size();
    }

    public int steer(int time, int course, int speed) {
        time(time);
        argument(in(course, 0, 21599) && in(speed, 0, 400));
        int legs = state.legs.size();
        if (legs == 8) {
            return -2;
        }
        if (legs > 0 && time <= state.legs.get(legs - 1)[0]) {
            return -3;
        }
        become(state.legs(with(state.legs, time, course, speed)));
        return legs;
    }

    public int setCurrent(int set, int drift) {
        argument(in(set, 0, 21599) && in(drift, 0, 100));
        int before = state.drift;
        become(new State(state.legs, state.sights, set, drift, state.height, state.index));
        return before;
    }

    public int correct(int height, int index) {
        argument(in(height, 0, 50) && in(index, -60, 60));
        become(new State(state.legs, state.sights, state.set, state.drift, height, index));
        return sqrt(3L * height);
    }

    public int format(int sight) {
        isSight(sight);
        Reduced r = reduce(sight);
        formatted = String.format("%s %s%d'%02d z%d %s%d", names.get(state.sights.get(sight)[0]),
                r.observed < 0 ? "-" : "", Math.abs(r.observed) / 60, Math.abs(r.observed) % 60, r.azimuth / 60,
                r.intercept() >= 0 ? "t" : "a", Math.abs(r.intercept()));
        return formatted.length();
    }

    public int formattedByte(int index) {
        return in(index, 0, formatted.length() - 1) ? formatted.charAt(index) : NONE;
    }

    public int undoCount() {
        return history.size();
    }

    public int undo() {
        if (history.isEmpty()) {
            return NONE;
        }
        state = history.pop();
        return history.size();
    }

    public void saveSnapshot() {
        snapshot = state;
    }

    public boolean restoreSnapshot() {
        if (snapshot == null) {
            return false;
        }
        state = snapshot;
        history.clear();
        return true;
    }
}
