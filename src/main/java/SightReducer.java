import java.util.NoSuchElementException;

/**
 * A sight reducer for navigators: sextant altitudes taken from a moving ship become lines of
 * position, and these become running fixes, cocked hats, the most likely fix and the current.
 *
 * Units: angles in minutes of arc, times in minutes, distances in hundredths of a nautical mile,
 * speeds in tenths of a knot, sines in millionths. Every division rounds down.
 */
public final class SightReducer {
    /** There is no such value. */
    public static final int NONE = -1;
    /** There is no such place, angle or distance; error results of query start here. */
    public static final int HIDDEN = -1000000000;

    private static final int MILLION = 1000000;
    private static final int QUARTER_TURN = 5400;
    private static final int HALF_TURN = 10800;
    private static final int FULL_TURN = 21600;

    private static final int BYTES_A_FEED = 20;
    private static final int MOST_BYTES = 700;
    private static final int MOST_QUERY_BYTES = 200;
    private static final int MOST_QUERY_NUMBER = 99999;
    private static final int MOST_OPEN = 6;

    private static final int MOST_TIME = 5000;
    private static final int MOST_LATITUDE = 3600;
    private static final int MOST_LONGITUDE = 10799;
    private static final int MOST_SPEED = 400;
    private static final int MOST_DRIFT = 100;
    private static final int MOST_DECLINATION = 3600;
    private static final int MOST_HEIGHT = 50;
    private static final int MOST_INDEX = 60;
    private static final int LEAST_ALTITUDE = 300;
    private static final int MOST_ALTITUDE = 5100;
    private static final int MOST_LETTERS = 8;
    private static final int MOST_BODIES = 6;
    private static final int MOST_LEGS = 8;
    private static final int MOST_SIGHTS = 12;
    private static final int MOST_UNDOS = 10;

    private static final long LEAST_DETERMINANT = 100000000000L;

    private static final int ERROR_TOKEN = 1;
    private static final int ERROR_RANGE = 2;
    private static final int ERROR_COUNT = 3;
    private static final int ERROR_NAME = 4;
    private static final int ERROR_TIME = 5;

    private static final int LOAD_ERRORS = -10;
    private static final int REFUSED_FULL = -2;
    private static final int REFUSED_TIME = -3;

    private final Tokens tokens;
    private final Plan plan;
    private final Log log;
    private final Log saved;
    private boolean isSaved;
    private final History history;
    private final Chart chart;
    private final TextReader textReader;
    private final QueryReader queryReader;
    private final StringBuilder formatted;

    public SightReducer() {
        Tokens newTokens = new Tokens();
        Log newLog = new Log();
        Chart newChart = new Chart();
        tokens = newTokens;
        plan = new Plan();
        log = newLog;
        saved = new Log();
        history = new History();
        chart = newChart;
        textReader = new TextReader(newTokens);
        queryReader = new QueryReader(newTokens, newLog, newChart);
        formatted = new StringBuilder();
    }

    // ---- Input ----

    public int feed(int a, int b, int c, int d, int e) {
        if (tokens.count + BYTES_A_FEED > MOST_BYTES) {
            return NONE;
        }
        tokens.append(a);
        tokens.append(b);
        tokens.append(c);
        tokens.append(d);
        tokens.append(e);
        return tokens.count;
    }

    public int load(int length) throws IllegalArgumentException {
        if (length < 0 || length > tokens.count) {
            throw new IllegalArgumentException("length out of range");
        }
        tokens.begin(length);
        textReader.readText();
        if (tokens.code != 0) {
            return LOAD_ERRORS - tokens.code;
        }
        plan.copyFrom(textReader.plan);
        log.copyFrom(textReader.log);
        history.clear();
        isSaved = false;
        return log.sightCount;
    }

    public int errorPosition() {
        return tokens.errorAt;
    }

    public int query(int length) throws IllegalArgumentException {
        if (length < 0 || length > MOST_QUERY_BYTES || length > tokens.count) {
            throw new IllegalArgumentException("length out of range");
        }
        chart.drawAll(plan, log, 0);
        tokens.begin(length);
        boolean many = tokens.isWord("many");
        if (!many && !tokens.isWord("first")) {
            tokens.fail(ERROR_TOKEN);
        }
        tokens.advance();
        int holding = queryReader.readTest(0);
        tokens.needEnd();
        if (tokens.code != 0) {
            return HIDDEN - tokens.code;
        }
        if (many) {
            return Integer.bitCount(holding);
        }
        return holding == 0 ? NONE : Integer.numberOfTrailingZeros(holding);
    }

    // ---- Angles ----

    public int sine(int angle) {
        return sineOf(angle);
    }

    public int arc(int value) throws IllegalArgumentException {
        if (value < -MILLION || value > MILLION) {
            throw new IllegalArgumentException("value out of range");
        }
        return arcOf(value);
    }

    // ---- What is told ----

    public int told(int what) throws NoSuchElementException {
        switch (what) {
            case 0:
                return plan.bodyCount;
            case 1:
                return log.legCount;
            case 2:
                return log.sightCount;
            case 3:
                return plan.latitude;
            case 4:
                return plan.longitude;
            case 5:
                return log.height;
            case 6:
                return log.index;
            case 7:
                return log.set;
            case 8:
                return log.drift;
            default:
                throw new NoSuchElementException("no such count or setting");
        }
    }

    public int body(int body, int what) throws NoSuchElementException {
        needBody(body);
        switch (what) {
            case 0:
                return at(plan.declinations, body);
            case 1:
                return at(plan.hourAngles, body);
            case 2:
                return at(plan.nameLengths, body);
            case 3:
                return log.sightsOf(body);
            default:
                throw new NoSuchElementException("no such property of a body");
        }
    }

    public int leg(int leg, int what) throws NoSuchElementException {
        if (leg < 0 || leg >= log.legCount) {
            throw new NoSuchElementException("no such leg");
        }
        switch (what) {
            case 0:
                return at(log.legTimes, leg);
            case 1:
                return at(log.legCourses, leg);
            case 2:
                return at(log.legSpeeds, leg);
            default:
                throw new NoSuchElementException("no such property of a leg");
        }
    }

    // ---- The ship ----

    public int displacement(int time, boolean north) throws IllegalArgumentException {
        needTime(time);
        Ship ship = chart.ship;
        ship.sailTo(log, time);
        return north ? ship.north : ship.east;
    }

    public int reckoned(int time, boolean longitude) throws IllegalArgumentException {
        needTime(time);
        Ship ship = chart.ship;
        ship.sailTo(log, time);
        ship.reckonFrom(plan);
        return longitude ? ship.longitude : ship.latitude;
    }

    // ---- Sights and their lines ----

    public int sight(int sight, int what) throws NoSuchElementException {
        needSight(sight);
        chart.drawLine(plan, log, sight, 0);
        Line line = chart.lineOf(sight);
        switch (what) {
            case 0:
                return at(log.sightBodies, sight);
            case 1:
                return at(log.sightTimes, sight);
            case 2:
                return at(log.sightAltitudes, sight);
            case 3:
                return line.apparent;
            case 4:
                return line.observed;
            case 5:
                return line.expected;
            case 6:
                return line.azimuth;
            case 7:
                return line.intercept;
            case 8:
                return line.offset;
            default:
                throw new NoSuchElementException("no such property of a sight");
        }
    }

    public int carried(int sight, int time) throws NoSuchElementException, IllegalArgumentException {
        needSight(sight);
        needTime(time);
        chart.drawLine(plan, log, sight, time);
        return chart.lineOf(sight).carriedOffset;
    }

    public int crossing(int sight, int other, int time, boolean north)
            throws NoSuchElementException, IllegalArgumentException {
        needSight(sight);
        needSight(other);
        needTime(time);
        chart.drawLine(plan, log, sight, time);
        chart.drawLine(plan, log, other, time);
        Place crossed = chart.crossed;
        crossed.cross(chart.lineOf(sight), chart.lineOf(other));
        if (!crossed.isKnown) {
            return HIDDEN;
        }
        return north ? crossed.north : crossed.east;
    }

    // ---- Hats ----

    public int hat(int one, int two, int three, int time, int what)
            throws NoSuchElementException, IllegalArgumentException {
        needThreeSights(one, two, three);
        needTime(time);
        if (what < 0 || what > 2) {
            throw new IllegalArgumentException("no such property of a hat");
        }
        drawHat(one, two, three, time);
        if (!chart.cocked.isKnown) {
            return HIDDEN;
        }
        if (what == 0) {
            return chart.cocked.squareMiles();
        }
        return what == 1 ? chart.cocked.middleEast() : chart.cocked.middleNorth();
    }

    public int smallestHat(int time) throws IllegalArgumentException {
        needTime(time);
        chart.drawAll(plan, log, time);
        return chart.findLeastHat(log.sightCount);
    }

    public boolean isInside(int one, int two, int three, int time, int east, int north)
            throws NoSuchElementException, IllegalArgumentException {
        needThreeSights(one, two, three);
        needTime(time);
        if (east < -MILLION || east > MILLION || north < -MILLION || north > MILLION) {
            throw new IllegalArgumentException("place out of range");
        }
        drawHat(one, two, three, time);
        return chart.cocked.isKnown && chart.cocked.holds(east, north);
    }

    // ---- The fix of all sights ----

    public int fix(int time, boolean north) throws IllegalArgumentException {
        needTime(time);
        if (!chart.findFix(plan, log, time)) {
            return HIDDEN;
        }
        return north ? chart.fixed.north : chart.fixed.east;
    }

    public int residual(int sight, int time) throws NoSuchElementException, IllegalArgumentException {
        needSight(sight);
        needTime(time);
        if (!chart.findFix(plan, log, time)) {
            return HIDDEN;
        }
        return chart.lineOf(sight).missedBy(chart.fixed);
    }

    public int worst(int time) throws IllegalArgumentException {
        needTime(time);
        if (!chart.findFix(plan, log, time)) {
            return NONE;
        }
        int found = NONE;
        int greatest = NONE;
        for (int sight = 0; sight < log.sightCount; sight++) {
            int missed = Math.abs(chart.lineOf(sight).missedBy(chart.fixed));
            if (missed > greatest) {
                found = sight;
                greatest = missed;
            }
        }
        return found;
    }

    public int offCourse(int time) throws IllegalArgumentException {
        needTime(time);
        return chart.findFix(plan, log, time) ? chart.distanceOff() : HIDDEN;
    }

    public int unknownCurrent(int time, boolean drift) throws IllegalArgumentException {
        if (time < 1 || time > MOST_TIME) {
            throw new IllegalArgumentException("time out of range");
        }
        if (!chart.findFix(plan, log, time)) {
            return HIDDEN;
        }
        int distance = chart.distanceOff();
        return drift ? (int) down(6L * distance, time) : chart.directionOff(distance);
    }

    public double meanResidual(int time) throws IllegalArgumentException {
        needTime(time);
        if (log.sightCount == 0 || !chart.findFix(plan, log, time)) {
            return 0.0;
        }
        long sum = 0;
        for (int sight = 0; sight < log.sightCount; sight++) {
            sum += Math.abs(chart.lineOf(sight).missedBy(chart.fixed));
        }
        return (double) sum / (double) log.sightCount;
    }

    public float meanIntercept() {
        if (log.sightCount == 0) {
            return 0.0f;
        }
        chart.drawAll(plan, log, 0);
        int sum = 0;
        for (int sight = 0; sight < log.sightCount; sight++) {
            sum += chart.lineOf(sight).intercept;
        }
        return (float) sum / (float) log.sightCount;
    }

    // ---- Operations ----

    public int observe(int body, int time, int altitude)
            throws NoSuchElementException, IllegalArgumentException {
        needBody(body);
        needTime(time);
        if (altitude < LEAST_ALTITUDE || altitude > MOST_ALTITUDE) {
            throw new IllegalArgumentException("altitude out of range");
        }
        if (log.sightCount >= MOST_SIGHTS) {
            return REFUSED_FULL;
        }
        history.remember(log);
        log.addSight(body, time, altitude);
        return log.sightCount - 1;
    }

    public int drop(int sight) throws NoSuchElementException {
        needSight(sight);
        history.remember(log);
        log.removeSight(sight);
        return log.sightCount;
    }

    public int steer(int time, int course, int speed) throws IllegalArgumentException {
        needTime(time);
        needAngle(course);
        if (speed < 0 || speed > MOST_SPEED) {
            throw new IllegalArgumentException("speed out of range");
        }
        if (log.legCount >= MOST_LEGS) {
            return REFUSED_FULL;
        }
        if (time <= log.lastLegTime()) {
            return REFUSED_TIME;
        }
        history.remember(log);
        log.addLeg(time, course, speed);
        return log.legCount - 1;
    }

    public int setCurrent(int set, int drift) throws IllegalArgumentException {
        needAngle(set);
        if (drift < 0 || drift > MOST_DRIFT) {
            throw new IllegalArgumentException("drift out of range");
        }
        int driftBefore = log.drift;
        history.remember(log);
        log.set = set;
        log.drift = drift;
        return driftBefore;
    }

    public int correct(int height, int index) throws IllegalArgumentException {
        if (height < 0 || height > MOST_HEIGHT || index < -MOST_INDEX || index > MOST_INDEX) {
            throw new IllegalArgumentException("height or index error out of range");
        }
        history.remember(log);
        log.height = height;
        log.index = index;
        return log.dip();
    }

    // ---- Formatted sights ----

    public int format(int sight) throws NoSuchElementException {
        needSight(sight);
        chart.drawLine(plan, log, sight, 0);
        Line line = chart.lineOf(sight);
        int altitude = Math.abs(line.observed);
        int rest = altitude % 60;
        formatted.setLength(0);
        plan.appendName(at(log.sightBodies, sight), formatted);
        formatted.append(' ');
        if (line.observed < 0) {
            formatted.append('-');
        }
        formatted.append(altitude / 60).append('\'');
        formatted.append(rest / 10).append(rest % 10);
        formatted.append(" z").append(line.azimuth / 60);
        formatted.append(' ').append(line.intercept >= 0 ? 't' : 'a');
        formatted.append(Math.abs(line.intercept));
        return formatted.length();
    }

    public int formattedByte(int index) {
        return index < 0 || index >= formatted.length() ? NONE : formatted.charAt(index);
    }

    // ---- Undoing ----

    public int undoCount() {
        return history.count;
    }

    public int undo() {
        if (history.count == 0) {
            return NONE;
        }
        history.bringBack(log);
        return history.count;
    }

    public void saveSnapshot() {
        saved.copyFrom(log);
        isSaved = true;
    }

    public boolean restoreSnapshot() {
        if (!isSaved) {
            return false;
        }
        log.copyFrom(saved);
        history.clear();
        return true;
    }

    // ---- What the face refuses ----

    private static void needTime(int time) {
        if (time < 0 || time > MOST_TIME) {
            throw new IllegalArgumentException("time out of range");
        }
    }

    private static void needAngle(int angle) {
        if (angle < 0 || angle >= FULL_TURN) {
            throw new IllegalArgumentException("course or set out of range");
        }
    }

    private void needBody(int body) {
        if (body < 0 || body >= plan.bodyCount) {
            throw new NoSuchElementException("no such body");
        }
    }

    private void needSight(int sight) {
        if (sight < 0 || sight >= log.sightCount) {
            throw new NoSuchElementException("no such sight");
        }
    }

    private void needThreeSights(int one, int two, int three) {
        needSight(one);
        needSight(two);
        needSight(three);
    }

    private void drawHat(int one, int two, int three, int time) {
        chart.drawLine(plan, log, one, time);
        chart.drawLine(plan, log, two, time);
        chart.drawLine(plan, log, three, time);
        chart.cocked.span(chart.lineOf(one), chart.lineOf(two), chart.lineOf(three));
    }

    // ---- Numbers ----

    /** The quotient rounded down; no caller has a divisor of 0, which would give 0. */
    private static long down(long number, long divisor) {
        return divisor == 0 ? 0 : Math.floorDiv(number, divisor);
    }

    private static long product(long one, long other) {
        return Math.floorDiv(one * other, (long) MILLION);
    }

    private static int limited(long number) {
        return (int) Math.max(-MILLION, Math.min(MILLION, number));
    }

    private static int sineOf(int angle) {
        int inTurn = Math.floorMod(angle, FULL_TURN);
        boolean isNegative = inTurn >= HALF_TURN;
        long d = isNegative ? inTurn - HALF_TURN : inTurn;
        long x = d * (HALF_TURN - d);
        long divisor = 145800000L - x;
        int size = divisor <= 0 ? 0 : (int) (4000000L * x / divisor);
        return isNegative ? -size : size;
    }

    private static int cosineOf(int angle) {
        return sineOf(angle + QUARTER_TURN);
    }

    /** Finds the angle bit by bit, as the sine does not fall between 0 and a quarter turn. */
    private static int arcOf(int value) {
        int size = Math.abs(value);
        int angle = 0;
        for (int step = 4096; step > 0; step /= 2) {
            int tried = angle + step;
            if (tried <= QUARTER_TURN && sineOf(tried) <= size) {
                angle = tried;
            }
        }
        return value < 0 ? -angle : angle;
    }

    /** The greatest integer whose square is at most the number, for numbers below 2 to the 62. */
    private static int rootOf(long number) {
        long root = 0;
        for (int bit = 30; bit >= 0; bit--) {
            long tried = root + (1L << bit);
            if (tried * tried <= number) {
                root = tried;
            }
        }
        return (int) root;
    }

    private static int longitudeOf(long angle) {
        return (int) (Math.floorMod(angle + HALF_TURN, (long) FULL_TURN) - HALF_TURN);
    }

    private static int at(int[] row, int index) {
        return index < 0 || index >= row.length ? 0 : row[index];
    }

    private static void put(int[] row, int index, int value) {
        if (index >= 0 && index < row.length) {
            row[index] = value;
        }
    }

    private static void copyRow(int[] from, int[] to) {
        System.arraycopy(from, 0, to, 0, Math.min(from.length, to.length));
    }

    /** What a text alone can tell: the start and the bodies. */
    private static final class Plan {
        int latitude;
        int longitude;
        int bodyCount;
        final int[] declinations = new int[MOST_BODIES];
        final int[] hourAngles = new int[MOST_BODIES];
        final int[] nameLengths = new int[MOST_BODIES];
        private final int[] letters = new int[MOST_BODIES * MOST_LETTERS];

        void clear() {
            latitude = 0;
            longitude = 0;
            bodyCount = 0;
        }

        void copyFrom(Plan other) {
            latitude = other.latitude;
            longitude = other.longitude;
            bodyCount = other.bodyCount;
            copyRow(other.declinations, declinations);
            copyRow(other.hourAngles, hourAngles);
            copyRow(other.nameLengths, nameLengths);
            copyRow(other.letters, letters);
        }

        int nameLetter(int body, int letter) {
            return at(letters, body * MOST_LETTERS + letter);
        }

        void putName(int body, Tokens tokens) {
            int length = tokens.wordLength();
            put(nameLengths, body, length);
            for (int letter = 0; letter < length && letter < MOST_LETTERS; letter++) {
                put(letters, body * MOST_LETTERS + letter, tokens.wordLetter(letter));
            }
        }

        int bodyNamed(Tokens tokens) {
            for (int body = 0; body < bodyCount; body++) {
                if (isNamed(body, tokens)) {
                    return body;
                }
            }
            return NONE;
        }

        private boolean isNamed(int body, Tokens tokens) {
            int length = at(nameLengths, body);
            boolean same = tokens.wordLength() == length;
            for (int letter = 0; same && letter < length; letter++) {
                same = tokens.wordLetter(letter) == nameLetter(body, letter);
            }
            return same;
        }

        void appendName(int body, StringBuilder text) {
            int length = at(nameLengths, body);
            for (int letter = 0; letter < length; letter++) {
                text.append((char) nameLetter(body, letter));
            }
        }
    }

    /** What the operations change, and so what undoing restores. */
    private static final class Log {
        int height;
        int index;
        int set;
        int drift;
        int legCount;
        final int[] legTimes = new int[MOST_LEGS];
        final int[] legCourses = new int[MOST_LEGS];
        final int[] legSpeeds = new int[MOST_LEGS];
        int sightCount;
        final int[] sightBodies = new int[MOST_SIGHTS];
        final int[] sightTimes = new int[MOST_SIGHTS];
        final int[] sightAltitudes = new int[MOST_SIGHTS];

        void clear() {
            height = 0;
            index = 0;
            set = 0;
            drift = 0;
            legCount = 0;
            sightCount = 0;
        }

        void copyFrom(Log other) {
            height = other.height;
            index = other.index;
            set = other.set;
            drift = other.drift;
            legCount = other.legCount;
            copyRow(other.legTimes, legTimes);
            copyRow(other.legCourses, legCourses);
            copyRow(other.legSpeeds, legSpeeds);
            sightCount = other.sightCount;
            copyRow(other.sightBodies, sightBodies);
            copyRow(other.sightTimes, sightTimes);
            copyRow(other.sightAltitudes, sightAltitudes);
        }

        int dip() {
            return rootOf(3L * height);
        }

        /** Before the first leg every time is late enough. */
        int lastLegTime() {
            return legCount == 0 ? NONE : at(legTimes, legCount - 1);
        }

        void addLeg(int time, int course, int speed) {
            if (legCount < MOST_LEGS) {
                put(legTimes, legCount, time);
                put(legCourses, legCount, course);
                put(legSpeeds, legCount, speed);
                legCount++;
            }
        }

        void addSight(int body, int time, int altitude) {
            if (sightCount < MOST_SIGHTS) {
                put(sightBodies, sightCount, body);
                put(sightTimes, sightCount, time);
                put(sightAltitudes, sightCount, altitude);
                sightCount++;
            }
        }

        void removeSight(int sight) {
            for (int behind = sight + 1; behind < sightCount; behind++) {
                put(sightBodies, behind - 1, at(sightBodies, behind));
                put(sightTimes, behind - 1, at(sightTimes, behind));
                put(sightAltitudes, behind - 1, at(sightAltitudes, behind));
            }
            sightCount--;
        }

        int sightsOf(int body) {
            int found = 0;
            for (int sight = 0; sight < sightCount; sight++) {
                if (at(sightBodies, sight) == body) {
                    found++;
                }
            }
            return found;
        }
    }

    /** The logs as they were before the latest operations, in a ring, so that none is made anew. */
    private static final class History {
        private final Log[] ring = new Log[MOST_UNDOS];
        private int next;
        int count;

        History() {
            for (int place = 0; place < ring.length; place++) {
                ring[place] = new Log();
            }
        }

        void clear() {
            next = 0;
            count = 0;
        }

        void remember(Log log) {
            copyLog(log, logAt(next));
            next = (next + 1) % MOST_UNDOS;
            count = Math.min(count + 1, MOST_UNDOS);
        }

        void bringBack(Log log) {
            next = (next + MOST_UNDOS - 1) % MOST_UNDOS;
            count--;
            copyLog(logAt(next), log);
        }

        private Log logAt(int place) {
            return place < 0 || place >= ring.length ? null : ring[place];
        }

        private static void copyLog(Log from, Log to) {
            if (from != null && to != null) {
                to.copyFrom(from);
            }
        }
    }

    /** Where the ship is at one time. */
    private static final class Ship {
        int east;
        int north;
        int latitude;
        int longitude;

        void sailTo(Log log, int time) {
            east = 0;
            north = 0;
            for (int leg = 0; leg < log.legCount; leg++) {
                int from = at(log.legTimes, leg);
                int until = time;
                if (leg + 1 < log.legCount) {
                    until = Math.min(time, at(log.legTimes, leg + 1));
                }
                if (until > from) {
                    move(at(log.legCourses, leg), at(log.legSpeeds, leg), until - from);
                }
            }
            move(log.set, log.drift, time);
        }

        private void move(int course, int speed, int minutes) {
            long way = down((long) speed * minutes, 6);
            east += (int) product(way, sineOf(course));
            north += (int) product(way, cosineOf(course));
        }

        void reckonFrom(Plan plan) {
            latitude = plan.latitude + (int) down(north, 100);
            longitude = longitudeOf(plan.longitude + down(10000L * east, cosineOf(plan.latitude)));
        }
    }

    /** A sight reduced to its line of position. */
    private static final class Line {
        int apparent;
        int observed;
        int expected;
        int azimuth;
        int intercept;
        int offset;
        int carriedOffset;
        private int sineOfAzimuth;
        private int cosineOfAzimuth;

        void reduce(Plan plan, Log log, int sight, Ship ship) {
            int body = at(log.sightBodies, sight);
            int declination = at(plan.declinations, body);
            int localAngle = at(plan.hourAngles, body) + 15 * at(log.sightTimes, sight) + ship.longitude;
            apparent = at(log.sightAltitudes, sight) + log.index - log.dip();
            observed = apparent - (int) down(cosineOf(apparent), sineOf(apparent));
            expected = expectedAltitude(ship.latitude, declination, localAngle);
            azimuth = azimuthTo(ship.latitude, declination, localAngle, expected);
            intercept = observed - expected;
            sineOfAzimuth = sineOf(azimuth);
            cosineOfAzimuth = cosineOf(azimuth);
            long difference = longitudeOf((long) ship.longitude - plan.longitude);
            long east = down(difference * cosineOf(plan.latitude), 10000);
            long north = 100L * (ship.latitude - plan.latitude);
            offset = along(east, north) + 100 * intercept;
        }

        void carry(int east, int north) {
            carriedOffset = offset + along(east, north);
        }

        int missedBy(Place place) {
            return along(place.east, place.north) - carriedOffset;
        }

        private int along(long east, long north) {
            return (int) down(east * sineOfAzimuth + north * cosineOfAzimuth, MILLION);
        }

        private static int expectedAltitude(int latitude, int declination, int localAngle) {
            long bothSines = product(sineOf(latitude), sineOf(declination));
            long bothCosines = product(cosineOf(latitude), cosineOf(declination));
            return arcOf(limited(bothSines + product(bothCosines, cosineOf(localAngle))));
        }

        private static int azimuthTo(int latitude, int declination, int localAngle, int altitude) {
            long divisor = product(cosineOf(latitude), cosineOf(altitude));
            int cosine = MILLION;
            if (divisor > 0) {
                long rest = sineOf(declination) - product(sineOf(latitude), sineOf(altitude));
                cosine = limited(down(rest * MILLION, divisor));
            }
            int fromNorth = QUARTER_TURN - arcOf(cosine);
            if (sineOf(localAngle) <= 0) {
                return fromNorth;
            }
            return fromNorth == 0 ? 0 : FULL_TURN - fromNorth;
        }
    }

    /** A place in hundredths of a mile from the start, if there is one. */
    private static final class Place {
        boolean isKnown;
        int east;
        int north;

        void putAt(long newEast, long newNorth) {
            isKnown = true;
            east = limited(newEast);
            north = limited(newNorth);
        }

        void cross(Line one, Line other) {
            long determinant = (long) one.sineOfAzimuth * other.cosineOfAzimuth
                    - (long) other.sineOfAzimuth * one.cosineOfAzimuth;
            isKnown = false;
            if (determinant >= LEAST_DETERMINANT || determinant <= -LEAST_DETERMINANT) {
                long eastPart = (long) one.carriedOffset * other.cosineOfAzimuth
                        - (long) other.carriedOffset * one.cosineOfAzimuth;
                long northPart = (long) other.carriedOffset * one.sineOfAzimuth
                        - (long) one.carriedOffset * other.sineOfAzimuth;
                putAt(down(eastPart * MILLION, determinant), down(northPart * MILLION, determinant));
            }
        }
    }

    /** The crossings of three lines. */
    private static final class Hat {
        boolean isKnown;
        private final Place first = new Place();
        private final Place second = new Place();
        private final Place third = new Place();

        void span(Line one, Line two, Line three) {
            first.cross(one, two);
            second.cross(one, three);
            third.cross(two, three);
            isKnown = first.isKnown && second.isKnown && third.isKnown;
        }

        int squareMiles() {
            return (int) down(Math.abs(turn(first, second, third.east, third.north)), 20000);
        }

        int middleEast() {
            return (int) down((long) first.east + second.east + third.east, 3);
        }

        int middleNorth() {
            return (int) down((long) first.north + second.north + third.north, 3);
        }

        boolean holds(int east, int north) {
            return isBeside(first, second, third, east, north)
                    && isBeside(first, third, second, east, north)
                    && isBeside(second, third, first, east, north);
        }

        private static boolean isBeside(Place from, Place to, Place last, int east, int north) {
            long turnToPlace = turn(from, to, east, north);
            long turnToLast = turn(from, to, last.east, last.north);
            return turnToPlace == 0 || turnToLast == 0 || (turnToPlace > 0) == (turnToLast > 0);
        }

        private static long turn(Place from, Place to, int east, int north) {
            return (long) (to.east - from.east) * (north - from.north)
                    - (long) (east - from.east) * (to.north - from.north);
        }
    }

    /** The lines carried to one time, and what they give together. */
    private static final class Chart {
        private final Line[] lines = new Line[MOST_SIGHTS];
        private final Line noLine = new Line();
        final Ship ship = new Ship();
        final Place crossed = new Place();
        final Place fixed = new Place();
        final Hat cocked = new Hat();

        Chart() {
            for (int sight = 0; sight < lines.length; sight++) {
                lines[sight] = new Line();
            }
        }

        Line lineOf(int sight) {
            Line line = sight < 0 || sight >= lines.length ? null : lines[sight];
            return line == null ? noLine : line;
        }

        void drawLine(Plan plan, Log log, int sight, int time) {
            ship.sailTo(log, at(log.sightTimes, sight));
            ship.reckonFrom(plan);
            Line line = lineOf(sight);
            line.reduce(plan, log, sight, ship);
            int eastBefore = ship.east;
            int northBefore = ship.north;
            ship.sailTo(log, time);
            line.carry(ship.east - eastBefore, ship.north - northBefore);
        }

        void drawAll(Plan plan, Log log, int time) {
            for (int sight = 0; sight < log.sightCount; sight++) {
                drawLine(plan, log, sight, time);
            }
        }

        int findLeastHat(int count) {
            int found = NONE;
            int least = 0;
            for (int one = 0; one < count; one++) {
                for (int two = one + 1; two < count; two++) {
                    for (int three = two + 1; three < count; three++) {
                        cocked.span(lineOf(one), lineOf(two), lineOf(three));
                        if (cocked.isKnown && (found == NONE || cocked.squareMiles() < least)) {
                            found = 10000 * one + 100 * two + three;
                            least = cocked.squareMiles();
                        }
                    }
                }
            }
            return found;
        }

        boolean findFix(Plan plan, Log log, int time) {
            long a = 0;
            long b = 0;
            long c = 0;
            long p = 0;
            long q = 0;
            for (int sight = 0; sight < log.sightCount; sight++) {
                drawLine(plan, log, sight, time);
                Line line = lineOf(sight);
                a += product(line.sineOfAzimuth, line.sineOfAzimuth);
                b += product(line.sineOfAzimuth, line.cosineOfAzimuth);
                c += product(line.cosineOfAzimuth, line.cosineOfAzimuth);
                p += product(line.carriedOffset, line.sineOfAzimuth);
                q += product(line.carriedOffset, line.cosineOfAzimuth);
            }
            long determinant = a * c - b * b;
            fixed.isKnown = false;
            if (determinant >= LEAST_DETERMINANT) {
                long divisor = down(determinant, 1000);
                fixed.putAt(down((p * c - q * b) * 1000, divisor), down((q * a - p * b) * 1000, divisor));
            }
            ship.sailTo(log, time);
            return fixed.isKnown;
        }

        /** How far the fix is from the ship, both as findFix left them. */
        int distanceOff() {
            long east = fixed.east - ship.east;
            long north = fixed.north - ship.north;
            return rootOf(east * east + north * north);
        }

        /** Whither the fix is from the ship, both as findFix left them. */
        int directionOff(int distance) {
            if (distance == 0) {
                return 0;
            }
            long east = fixed.east - ship.east;
            boolean isNorth = fixed.north >= ship.north;
            int angle = arcOf(limited(down(Math.abs(east) * MILLION, distance)));
            if (east >= 0) {
                return isNorth ? angle : HALF_TURN - angle;
            }
            if (!isNorth) {
                return HALF_TURN + angle;
            }
            return angle == 0 ? 0 : FULL_TURN - angle;
        }
    }

    /** The bytes that were fed, and the token of them that is looked at. */
    private static final class Tokens {
        private static final int END = 0;
        private static final int WORD = 1;
        private static final int NUMBER = 2;
        private static final int SIGN = 3;
        /** Longer numbers count as this one, which is out of every range. */
        private static final int HUGE = 1000000;

        private final byte[] bytes = new byte[MOST_BYTES];
        int count;
        int code;
        int errorAt = NONE;
        private int kind;
        private int number;
        private int start;
        private int next;
        private int end;

        void append(int four) {
            for (int shift = 24; shift >= 0; shift -= 8) {
                if (count < bytes.length) {
                    bytes[count] = (byte) (four >> shift);
                    count++;
                }
            }
        }

        /** Goes to the first token of a text and empties the buffer, whose bytes are read still. */
        void begin(int length) {
            count = 0;
            code = 0;
            errorAt = NONE;
            next = 0;
            end = Math.min(length, bytes.length);
            advance();
        }

        void advance() {
            start = next;
            while (start < end && isBlank(byteAt(start))) {
                start++;
            }
            next = start + 1;
            int first = byteAt(start);
            if (start >= end) {
                kind = END;
                next = end;
            } else if (isLetter(first)) {
                kind = WORD;
                while (next < end && isLetter(byteAt(next))) {
                    next++;
                }
            } else if (isDigit(first)) {
                kind = NUMBER;
                number = first - '0';
                while (next < end && isDigit(byteAt(next))) {
                    number = Math.min(HUGE, 10 * number + byteAt(next) - '0');
                    next++;
                }
            } else {
                kind = SIGN;
            }
        }

        /** Only the first error counts; behind it the text is as if it ended. */
        void fail(int newCode) {
            if (code == 0) {
                code = newCode;
                errorAt = start;
            }
            kind = END;
            next = end;
        }

        boolean isEnd() {
            return kind == END;
        }

        boolean isAnyWord() {
            return kind == WORD;
        }

        boolean isWord(String word) {
            boolean same = kind == WORD && wordLength() == word.length();
            for (int letter = 0; same && letter < word.length(); letter++) {
                same = byteAt(start + letter) == word.charAt(letter);
            }
            return same;
        }

        int wordLength() {
            return kind == WORD ? next - start : 0;
        }

        int wordLetter(int letter) {
            return byteAt(start + letter);
        }

        boolean isSign(char sign) {
            return kind == SIGN && byteAt(start) == sign;
        }

        void needSign(char sign) {
            if (!isSign(sign)) {
                fail(ERROR_TOKEN);
            }
            advance();
        }

        void needEnd() {
            if (kind != END) {
                fail(ERROR_TOKEN);
            }
        }

        /** The number here, which stays the token that is looked at; 0 after an error. */
        int numberHere(int least, int most) {
            if (kind != NUMBER) {
                fail(ERROR_TOKEN);
                return 0;
            }
            if (number < least || number > most) {
                fail(ERROR_RANGE);
                return 0;
            }
            return number;
        }

        int takeNumber(int least, int most) {
            int taken = numberHere(least, most);
            advance();
            return taken;
        }

        int takeSigned(int most) {
            boolean isNegative = isSign('-');
            if (isNegative) {
                advance();
            }
            int size = takeNumber(0, most);
            return isNegative ? -size : size;
        }

        private int byteAt(int position) {
            return position < 0 || position >= bytes.length ? NONE : bytes[position] & 255;
        }

        private static boolean isBlank(int sign) {
            return sign == ' ' || sign == '\n';
        }

        private static boolean isLetter(int sign) {
            return sign >= 'a' && sign <= 'z';
        }

        private static boolean isDigit(int sign) {
            return sign >= '0' && sign <= '9';
        }
    }

    /** Reads a text into a plan and a log of its own, so that a wrong text changes nothing else. */
    private static final class TextReader {
        private final Tokens tokens;
        final Plan plan = new Plan();
        final Log log = new Log();

        TextReader(Tokens newTokens) {
            tokens = newTokens;
        }

        void readText() {
            plan.clear();
            log.clear();
            for (int clause = 0; clause < MOST_BYTES && !tokens.isEnd(); clause++) {
                readClause();
            }
        }

        private void readClause() {
            if (tokens.isWord("start")) {
                readStart();
            } else if (tokens.isWord("eye")) {
                tokens.advance();
                log.height = tokens.takeNumber(0, MOST_HEIGHT);
            } else if (tokens.isWord("index")) {
                tokens.advance();
                log.index = tokens.takeSigned(MOST_INDEX);
            } else if (tokens.isWord("current")) {
                tokens.advance();
                log.set = tokens.takeNumber(0, FULL_TURN - 1);
                log.drift = tokens.takeNumber(0, MOST_DRIFT);
            } else if (tokens.isWord("body")) {
                readBody();
            } else if (tokens.isWord("leg")) {
                readLeg();
            } else if (tokens.isWord("sight")) {
                readSight();
            } else {
                tokens.fail(ERROR_TOKEN);
            }
            tokens.needSign(';');
        }

        private void readStart() {
            tokens.advance();
            plan.latitude = tokens.takeSigned(MOST_LATITUDE);
            plan.longitude = tokens.takeSigned(MOST_LONGITUDE);
        }

        private void readBody() {
            int body = plan.bodyCount;
            if (body >= MOST_BODIES) {
                tokens.fail(ERROR_COUNT);
                return;
            }
            tokens.advance();
            if (!tokens.isAnyWord() || tokens.wordLength() > MOST_LETTERS) {
                tokens.fail(ERROR_TOKEN);
            } else if (plan.bodyNamed(tokens) != NONE) {
                tokens.fail(ERROR_NAME);
            } else {
                plan.putName(body, tokens);
            }
            tokens.advance();
            put(plan.declinations, body, tokens.takeSigned(MOST_DECLINATION));
            put(plan.hourAngles, body, tokens.takeNumber(0, FULL_TURN - 1));
            plan.bodyCount++;
        }

        private void readLeg() {
            if (log.legCount >= MOST_LEGS) {
                tokens.fail(ERROR_COUNT);
                return;
            }
            tokens.advance();
            int time = tokens.numberHere(0, MOST_TIME);
            if (time <= log.lastLegTime()) {
                tokens.fail(ERROR_TIME);
            }
            tokens.advance();
            int course = tokens.takeNumber(0, FULL_TURN - 1);
            int speed = tokens.takeNumber(0, MOST_SPEED);
            log.addLeg(time, course, speed);
        }

        private void readSight() {
            if (log.sightCount >= MOST_SIGHTS) {
                tokens.fail(ERROR_COUNT);
                return;
            }
            tokens.advance();
            int body = plan.bodyNamed(tokens);
            if (body == NONE) {
                tokens.fail(tokens.isAnyWord() ? ERROR_NAME : ERROR_TOKEN);
            }
            tokens.advance();
            int time = tokens.takeNumber(0, MOST_TIME);
            int altitude = tokens.takeNumber(LEAST_ALTITUDE, MOST_ALTITUDE);
            log.addSight(body, time, altitude);
        }
    }

    /** Evaluates a test for all sights at once: bit n of a result tells whether it holds for sight n. */
    private static final class QueryReader {
        private static final int NUMBER = 0;
        private static final int BODY = 1;
        private static final int TIME = 2;
        private static final int ALTITUDE = 3;
        private static final int EXPECTED = 4;
        private static final int AZIMUTH = 5;
        private static final int AWAY = 6;

        private final Tokens tokens;
        private final Log log;
        private final Chart chart;
        private final int[] left = new int[MOST_SIGHTS];
        private final int[] right = new int[MOST_SIGHTS];

        QueryReader(Tokens newTokens, Log newLog, Chart newChart) {
            tokens = newTokens;
            log = newLog;
            chart = newChart;
        }

        private int readTest(int open) {
            int holding = readConjunction(open);
            for (int part = 0; part < MOST_QUERY_BYTES && tokens.isWord("or"); part++) {
                tokens.advance();
                holding |= readConjunction(open);
            }
            return holding;
        }

        private int readConjunction(int open) {
            int holding = readFactor(open);
            for (int part = 0; part < MOST_QUERY_BYTES && tokens.isWord("and"); part++) {
                tokens.advance();
                holding &= readFactor(open);
            }
            return holding;
        }

        private int readFactor(int open) {
            boolean isNot = tokens.isWord("not");
            if (!isNot && !tokens.isSign('(')) {
                return readComparison();
            }
            if (open >= MOST_OPEN) {
                tokens.fail(ERROR_COUNT);
                return 0;
            }
            tokens.advance();
            if (isNot) {
                int everySight = (1 << log.sightCount) - 1;
                return everySight & ~readFactor(open + 1);
            }
            int holding = readTest(open + 1);
            tokens.needSign(')');
            return holding;
        }

        private int readComparison() {
            readValue(left, propertyHere());
            boolean isLess = tokens.isSign('<');
            boolean isGreater = tokens.isSign('>');
            if (!isLess && !isGreater && !tokens.isSign('=')) {
                tokens.fail(ERROR_TOKEN);
            }
            tokens.advance();
            readValue(right, propertyHere());
            int holding = 0;
            for (int sight = 0; sight < log.sightCount; sight++) {
                int order = Integer.compare(at(left, sight), at(right, sight));
                if (isLess ? order < 0 : isGreater ? order > 0 : order == 0) {
                    holding |= 1 << sight;
                }
            }
            return holding;
        }

        /** A word that is no property is refused as a number is asked for in its place. */
        private void readValue(int[] values, int property) {
            int number = property == NONE ? tokens.numberHere(0, MOST_QUERY_NUMBER) : 0;
            for (int sight = 0; sight < log.sightCount; sight++) {
                put(values, sight, property == NONE ? number : propertyOf(sight, property));
            }
            tokens.advance();
        }

        private int propertyHere() {
            if (tokens.isWord("sight")) {
                return NUMBER;
            }
            if (tokens.isWord("body")) {
                return BODY;
            }
            if (tokens.isWord("time")) {
                return TIME;
            }
            if (tokens.isWord("altitude")) {
                return ALTITUDE;
            }
            if (tokens.isWord("expected")) {
                return EXPECTED;
            }
            if (tokens.isWord("azimuth")) {
                return AZIMUTH;
            }
            return tokens.isWord("away") ? AWAY : NONE;
        }

        private int propertyOf(int sight, int property) {
            Line line = chart.lineOf(sight);
            switch (property) {
                case NUMBER:
                    return sight;
                case BODY:
                    return at(log.sightBodies, sight);
                case TIME:
                    return at(log.sightTimes, sight);
                case ALTITUDE:
                    return line.observed;
                case EXPECTED:
                    return line.expected;
                case AZIMUTH:
                    return line.azimuth;
                default:
                    return Math.abs(line.intercept);
            }
        }
    }
}
