/** The edges that "Numbers" names, which promises 5 (sine) and 6 (arc) answer directly. */
public final class NumbersTest {
    private static final int LEAST = Integer.MIN_VALUE;
    private static final int MOST = Integer.MAX_VALUE;

    public static void main(String[] args) throws Exception {
        Checks.runAll(NumbersTest.class);
    }

    private static void sines(int[]... pairs) {
        SightReducer x = new SightReducer();
        for (int[] pair : pairs) {
            Checks.due("sine of " + pair[0], x.sine(pair[0]), pair[1]);
        }
    }

    private static void arcs(int[]... pairs) {
        SightReducer x = new SightReducer();
        for (int[] pair : pairs) {
            Checks.due("arc of " + pair[0], x.arc(pair[0]), pair[1]);
        }
    }

    /** The formula alone, for an angle from 0 to 10800. */
    private static long half(long d) {
        long x = d * (10800 - d);
        return 4000000 * x / (145800000 - x);
    }

    /** Promise 5: "for an angle d from 0 to 10800, with x = d * (10800 - d), it is 4000000 * x / (145800000 - x)". */
    static void p5HalfATurnAndItsEnds() {
        sines(new int[][] {{0, 0}, {1, 296}, {2, 592}, {1800, 500000}, {5398, 999999}, {5399, 999999}, {5400, 1000000},
            {5401, 999999}, {9000, 500000}, {10798, 592}, {10799, 296}, {10800, 0}});
        SightReducer x = new SightReducer();
        for (int d = 0; d <= 10800; d++) {
            Checks.due("sine of " + d, (long) x.sine(d), half(d));
        }
    }

    /** Promise 5: "sine(d + 10800) = -sine(d)", so that the sine below 0 is not rounded down. */
    static void p5TheOtherHalfTurn() {
        sines(new int[][] {{10801, -296}, {10802, -592}, {12600, -500000}, {16199, -999999}, {16200, -1000000},
            {16201, -999999}, {21598, -592}, {21599, -296}});
        SightReducer x = new SightReducer();
        for (int d = 0; d <= 10800; d++) {
            Checks.due("sine of " + (d + 10800), (long) x.sine(d + 10800), -half(d));
        }
    }

    /** Promise 5: "sine(d + 21600) = sine(d)", at both ends of the turn. */
    static void p5AWholeTurnWrapsAround() {
        sines(new int[][] {{21600, 0}, {21601, 296}, {27000, 1000000}, {32400, 0}, {32401, -296}, {43199, -296},
            {43200, 0}, {43201, 296}});
        SightReducer x = new SightReducer();
        for (int d = 0; d <= 10800; d++) {
            Checks.due("sine of " + (d + 216000000), (long) x.sine(d + 216000000), half(d));
        }
    }

    /** Promise 5: "sine(d + 21600) = sine(d)" and "sine(d + 10800) = -sine(d)", for angles below 0. */
    static void p5AnglesBelowZero() {
        sines(new int[][] {{-1, -296}, {-2, -592}, {-5400, -1000000}, {-10799, -296}, {-10800, 0}, {-10801, 296},
            {-16200, 1000000}, {-21599, 296}, {-21600, 0}, {-21601, -296}});
        SightReducer x = new SightReducer();
        for (int d = 0; d <= 10800; d++) {
            Checks.due("sine of " + (d - 216000000), (long) x.sine(d - 216000000), half(d));
            Checks.due("sine of " + -d, (long) x.sine(-d), -half(d));
        }
    }

    /** Promise 5: "Returns the sine of an angle, whatever angle it is": the ends of the ints. */
    static void p5TheGreatestAndTheLeastAngle() {
        // 2147483647 = 99420 * 21600 + 11647, and -2147483648 = -99421 * 21600 + 9952
        sines(new int[][] {{MOST, -245474}, {11647, -245474}, {LEAST, 245755}, {9952, 245755}});
        SightReducer x = new SightReducer();
        Checks.due("a cosine's angle past the greatest", x.sine(MOST - 5399), x.sine(11647 - 5399));
    }

    /** Promise 6: "The arc of a number v is the greatest angle from 0 to 5400 whose sine is at most v". */
    static void p6TheGreatestAngleWithASineOfAtMostThat() {
        arcs(new int[][] {{0, 0}, {1, 0}, {295, 0}, {296, 1}, {297, 1}, {591, 1}, {592, 2}, {499999, 1799},
            {500000, 1800}, {500001, 1800}});
        SightReducer x = new SightReducer();
        for (int angle = 1; angle <= 5400; angle++) {
            int sine = (int) half(angle);
            int greatest = angle;
            while (greatest < 5400 && half(greatest + 1) == sine) {
                greatest++;
            }
            Checks.due("arc of the sine of " + angle, x.arc(sine), greatest);
            Checks.due("arc of a bit less", x.arc(sine - 1) < angle, true);
        }
    }

    /** Promise 6: "the greatest angle": several angles below 5400 have the sine 999999. */
    static void p6SeveralAnglesWithOneSine() {
        arcs(new int[][] {{999998, 5395}, {999999, 5399}, {1000000, 5400}});
        sines(new int[][] {{5395, 999998}, {5396, 999999}, {5397, 999999}, {5398, 999999}, {5399, 999999}});
    }

    /** Promise 6: "if v is at least 0, and minus the arc of -v otherwise". */
    static void p6NumbersBelowZero() {
        arcs(new int[][] {{-1, 0}, {-295, 0}, {-296, -1}, {-591, -1}, {-592, -2}, {-499999, -1799}, {-500000, -1800},
            {-999998, -5395}, {-999999, -5399}, {-1000000, -5400}});
    }

    /** Promise 6: "Throws IllegalArgumentException if value is not -1000000 to 1000000". */
    static void p6NumbersOutOfRange() {
        SightReducer x = new SightReducer();
        for (int value : new int[] {1000001, -1000001, MOST, LEAST}) {
            Checks.illegal("arc of " + value, () -> x.arc(value));
        }
    }

    /** Numbers: "'Rounded down' means toward minus infinity, and so is every division", in a displacement. */
    static void p10RoundedDownIsTowardMinusInfinity() {
        SightReducer west = Checks.loaded("leg 0 21599 6;");
        Checks.due("1 * -296 / 1000000", west.displacement(1, false), -1);
        Checks.due("1 * 999999 / 1000000", west.displacement(1, true), 0);
        SightReducer east = Checks.loaded("leg 0 1 6;");
        Checks.due("1 * 296 / 1000000", east.displacement(1, false), 0);
        SightReducer south = Checks.loaded("leg 0 10800 6;");
        Checks.due("a division without a rest stays", south.displacement(1, true), -1);
    }
}
