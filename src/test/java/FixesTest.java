/**
 * The edges that "Fixes" names, with promises 14 (crossing) to 23 (meanResidual).
 *
 * A body of the declination d and the hour angle 16200 stands, seen from 0 0 at the time 0, on the horizon at the
 * azimuth 5400 - d; with the hour angle 5400 it does so at 16200 + d. The numbers in the tables were searched for
 * outside of the class, with the formulas of the document.
 */
public final class FixesTest {
    private static final int NONE = SightReducer.NONE;
    private static final int HIDDEN = SightReducer.HIDDEN;
    private static final int EAST = 16200;
    private static final int WEST = 5400;
    private static final String SEA = "body north 3600 0;body east 0 18000;body south -3600 0;body west 0 3600;";
    /** A hat whose corners are those of CORNERS: of the first and second line, the first and third, the others. */
    private static final int[][] SLANTING = {{-516, WEST, 4910}, {2391, WEST, 4148}, {-2703, WEST, 3016}};
    private static final int[][] CORNERS = {{-503555, 45142}, {-509081, 81298}, {-489603, 61854}};
    /** Lines of which the first two meet at 1070544 -705284, which is limited. */
    private static final int[][] FAR = {{2940, EAST, 1700}, {2046, EAST, 4900}, {-1000, EAST, 2000}};
    /** Four lines whose fix has the determinant 100000000000. */
    private static final int[][] JUST = {{-267, EAST, 300}, {-755, EAST, 301}, {-510, EAST, 302}, {-998, EAST, 303}};
    /** Four lines whose fix would have the determinant 99999999999. */
    private static final int[][] NOT_QUITE = {{-44, EAST, 300}, {-85, EAST, 301}, {-269, EAST, 302}, {-728, EAST, 303}};

    public static void main(String[] args) throws Exception {
        Checks.runAll(FixesTest.class);
    }

    /** A reducer with a sight at the time 0 for each row of declination, hour angle and sextant altitude. */
    private static SightReducer lines(int[]... rows) {
        StringBuilder text = new StringBuilder();
        for (int row = 0; row < rows.length; row++) {
            char name = (char) ('a' + row);
            text.append("body ").append(name).append(' ').append(rows[row][0]).append(' ').append(rows[row][1]);
            text.append(";sight ").append(name).append(" 0 ").append(rows[row][2]).append(';');
        }
        return Checks.loaded(text.toString());
    }

    private static SightReducer onTheSea(String sights) {
        return Checks.loaded(SEA + sights);
    }

    private static void meet(SightReducer x, int one, int other, int east, int north) {
        String name = "lines " + one + " and " + other;
        Checks.due(name + " east", x.crossing(one, other, 0, false), east);
        Checks.due(name + " north", x.crossing(one, other, 0, true), north);
    }

    // ---- Crossings ----

    /**
     * Fixes: "cross well if the determinant ... is at least 100000000000 or at most -100000000000". No two directions
     * have just that determinant; the nearest are 100000036016 and 99999880999.
     */
    static void p14TheLeastDeterminant() {
        SightReducer just = lines(new int[][] {{1089, EAST, 300}, {1435, EAST, 301}});
        Checks.due("azimuth", just.sight(0, 6), 4311);
        Checks.due("azimuth", just.sight(1, 6), 3965);
        meet(just, 0, 1, 26652, 11473);
        SightReducer notQuite = lines(new int[][] {{1090, EAST, 300}, {1436, EAST, 301}});
        Checks.due("azimuth", notQuite.sight(0, 6), 4310);
        Checks.due("azimuth", notQuite.sight(1, 6), 3964);
        meet(notQuite, 0, 1, HIDDEN, HIDDEN);
    }

    /** Fixes: "or at most -100000000000": the same lines in the other order. */
    static void p14TheGreatestNegativeDeterminant() {
        meet(lines(new int[][] {{1089, EAST, 300}, {1435, EAST, 301}}), 1, 0, 26652, 11473);
        meet(lines(new int[][] {{1090, EAST, 300}, {1436, EAST, 301}}), 1, 0, HIDDEN, HIDDEN);
    }

    /** Promise 14: "HIDDEN if the lines do not cross well (also if both sights are the same)". */
    static void p14TheSameSightAndParallels() {
        SightReducer x = onTheSea("sight north 0 1806;sight north 0 1806;sight south 0 1806;sight east 0 1804;");
        meet(x, 0, 0, HIDDEN, HIDDEN);
        meet(x, 3, 3, HIDDEN, HIDDEN);
        meet(x, 0, 1, HIDDEN, HIDDEN);
        meet(x, 0, 2, HIDDEN, HIDDEN);
        meet(x, 0, 3, 300, 500);
    }

    /** Fixes: "both rounded down (a division by a negative determinant likewise)". */
    static void p14BothCoordinatesAreRoundedDown() {
        SightReducer x = lines(new int[][] {{1800, EAST, 300}, {-1300, WEST, 300}, {-900, EAST, 300}});
        // -174466.7 359579.96 by a positive determinant, 31040.2 4108.98 by a negative one, 5297.004 -91358.5
        meet(x, 0, 1, -174467, 359579);
        meet(x, 0, 2, 31040, 4108);
        meet(x, 1, 2, 5297, -91359);
        meet(x, 1, 0, -174467, 359579);
        meet(x, 2, 0, 31040, 4108);
        meet(x, 2, 1, 5297, -91359);
    }

    private static void limitedCrossing(int side, int[] row) {
        SightReducer x = lines(new int[][] {{row[0], side, row[1]}, {row[2], side, row[3]}});
        meet(x, 0, 1, row[4], row[5]);
        meet(x, 1, 0, row[4], row[5]);
    }

    /** Fixes: "each limited to 1000000": 999999, 1000000 and 1000001 to the east; north is left as it is. */
    static void p14LimitedInTheEast() {
        limitedCrossing(EAST, new int[] {2100, 4773, 3021, 1805, 999999, -594273});
        limitedCrossing(EAST, new int[] {2940, 1795, 2046, 4731, 1000000, -631339});
        limitedCrossing(EAST, new int[] {-3159, 888, -2683, 2515, 1000000, 652004});
    }

    /** Fixes: "each limited to 1000000": -999999, -1000000 and -1000001 to the east. */
    static void p14LimitedInTheWest() {
        limitedCrossing(WEST, new int[] {-3366, 1769, -2655, 3952, -999999, 459159});
        limitedCrossing(WEST, new int[] {2585, 4098, 3132, 2429, -1000000, -468197});
        limitedCrossing(WEST, new int[] {-2672, 3643, -2285, 4802, -1000000, 496059});
    }

    /** Fixes: "each limited to 1000000": 999999, 1000000 and 1000001 to the north; east is left as it is. */
    static void p14LimitedInTheNorth() {
        limitedCrossing(WEST, new int[] {2300, 4515, 1354, 1869, 214417, 999999});
        limitedCrossing(EAST, new int[] {126, 4219, -845, 1285, 384921, 1000000});
        limitedCrossing(EAST, new int[] {1619, 1327, 2626, 4301, -361289, 1000000});
    }

    /** Fixes: "each limited to 1000000": -999999, -1000000 and -1000001 to the north. */
    static void p14LimitedInTheSouth() {
        limitedCrossing(WEST, new int[] {-1886, 4767, -1194, 2923, 52394, -999999});
        limitedCrossing(EAST, new int[] {958, 433, -477, 4687, 332121, -1000000});
        limitedCrossing(WEST, new int[] {-1208, 1123, -2054, 3569, 248594, -1000000});
    }

    /** Promise 14: "carried to a time": the ends 0 and 5000 are times, before and behind those of the sights. */
    static void p14TheEndsOfTime() {
        SightReducer x = onTheSea("leg 0 5400 6;sight north 0 1806;sight east 0 1804;");
        meet(x, 0, 1, 300, 500);
        Checks.due("east at 5000", x.crossing(0, 1, 5000, false), 5300);
        Checks.due("north at 5000", x.crossing(0, 1, 5000, true), 500);
    }

    // ---- Hats ----

    private static final int[][] ORDERS = {{0, 1, 2}, {0, 2, 1}, {1, 0, 2}, {1, 2, 0}, {2, 0, 1}, {2, 1, 0}};

    private static void hats(SightReducer x, int area, int east, int north) {
        for (int[] sights : ORDERS) {
            int[] due = {area, east, north};
            for (int what = 0; what < 3; what++) {
                Checks.due(java.util.Arrays.toString(sights) + " property " + what,
                        x.hat(sights[0], sights[1], sights[2], 0, what), due[what]);
            }
        }
    }

    /** Fixes: "if each two of them cross well": two lines that do so by a hair's breadth, and two that do not. */
    static void p15EachTwoMustCrossWell() {
        hats(lines(new int[][] {{1089, EAST, 300}, {1435, EAST, 301}, {-2000, EAST, 302}}), 1317, 30527, 1376);
        hats(lines(new int[][] {{1090, EAST, 300}, {1436, EAST, 301}, {-2000, EAST, 302}}), HIDDEN, HIDDEN, HIDDEN);
    }

    /** Promise 15: "HIDDEN if there is no hat": a sight twice or three times. */
    static void p15ASightTwice() {
        SightReducer x = lines(SLANTING);
        for (int[] sights : new int[][] {{0, 0, 1}, {0, 1, 0}, {1, 0, 0}, {2, 2, 2}}) {
            for (int what = 0; what < 3; what++) {
                Checks.due("property " + what, x.hat(sights[0], sights[1], sights[2], 0, what), HIDDEN);
            }
            Checks.due("inside", x.isInside(sights[0], sights[1], sights[2], 0, 0, 0), false);
        }
    }

    /** Fixes: "Its area is the absolute value of ..., divided by 20000 (... rounded down)": 19999, 20000, 39999, 40000. */
    static void p15TheAreaIsRoundedDown() {
        hats(lines(new int[][] {{-1259, EAST, 1609}, {1211, EAST, 1884}, {3478, EAST, 1313}}), 0, 186848, 37790);
        hats(lines(new int[][] {{1914, WEST, 835}, {1166, EAST, 785}, {2913, EAST, 1500}}), 1, 17302, 184975);
        hats(lines(new int[][] {{-2188, EAST, 1319}, {901, WEST, 1218}, {-460, WEST, 3732}}), 1, -292617, -617468);
        hats(lines(new int[][] {{-3589, EAST, 543}, {-2255, EAST, 577}, {153, EAST, 435}}), 2, 44402, -36292);
    }

    /** Fixes: "the absolute value of": -19999, -20000 and -39999. */
    static void p15TheAbsoluteValueIsDivided() {
        hats(lines(new int[][] {{-3363, WEST, 1896}, {529, EAST, 679}, {-783, EAST, 1835}}), 0, 116511, -307378);
        hats(lines(new int[][] {{-2658, EAST, 423}, {-3417, EAST, 915}, {382, WEST, 1094}}), 1, -131860, -194812);
        hats(lines(new int[][] {{1058, EAST, 799}, {-298, EAST, 909}, {-2275, EAST, 818}}), 1, 89314, -18137);
    }

    /** Fixes: "Its middle is (x0 + x1 + x2) / 3 and likewise for y", rounded down: -500746.3 and 62764.7. */
    static void p15TheMiddleIsRoundedDown() {
        SightReducer x = lines(SLANTING);
        meet(x, 0, 1, CORNERS[0][0], CORNERS[0][1]);
        meet(x, 0, 2, CORNERS[1][0], CORNERS[1][1]);
        meet(x, 1, 2, CORNERS[2][0], CORNERS[2][1]);
        hats(x, 29839, -500747, 62764);
    }

    /** Fixes: the crossings of a hat are limited too. */
    static void p15AHatWithALimitedCrossing() {
        SightReducer x = lines(FAR);
        meet(x, 0, 1, 1000000, -705284);
        hats(x, 17934226, 515378, -92709);
        Checks.due("the limited corner", x.isInside(0, 1, 2, 0, 1000000, -705284), true);
        Checks.due("beside it", x.isInside(0, 1, 2, 0, 1000000, -705285), false);
    }

    /** Promise 15: "if there is no such sight (checked first)", for each of the three, before time and what. */
    static void p15TheOrderOfTheChecks() {
        SightReducer x = lines(SLANTING);
        for (int sight : new int[] {-1, 3, Integer.MIN_VALUE, Integer.MAX_VALUE}) {
            Checks.missing("first", () -> x.hat(sight, 1, 2, -1, 3));
            Checks.missing("second", () -> x.hat(0, sight, 2, 5001, 3));
            Checks.missing("third", () -> x.hat(0, 1, sight, -1, -1));
        }
        Checks.illegal("what, and no hat", () -> x.hat(0, 0, 0, 0, 3));
        Checks.illegal("time, and no hat", () -> x.hat(0, 0, 0, 5001, 0));
    }

    /** Promises 15 and 17: "if time ... is out of range": the ends 0 and 5000 are in it, and the hat goes with the ship. */
    static void p15p17TheEndsOfTime() {
        SightReducer x = onTheSea("leg 0 5400 6;body mid 1800 18000;sight north 0 1806;sight east 0 1804;sight mid 0 1600;");
        int[][] due = {{0, 2657, 4028, 3743}, {5000, 7657, 4027, 3741}};
        for (int[] row : due) {
            Checks.due("area at " + row[0], x.hat(0, 1, 2, row[0], 0), row[3]);
            Checks.due("east at " + row[0], x.hat(0, 1, 2, row[0], 1), row[1]);
            Checks.due("north at " + row[0], x.hat(0, 1, 2, row[0], 2), row[2]);
            Checks.due("inside at " + row[0], x.isInside(0, 1, 2, row[0], row[1], row[2]), true);
            Checks.due("outside at " + row[0], x.isInside(0, 1, 2, row[0], row[1] - 2358, row[2]), false);
        }
    }

    // ---- The smallest hat ----

    /** Promise 16: "NONE if there is none": no sights, one, two, and three or four without a hat. */
    static void p16NoHat() {
        Checks.due("no sights", new SightReducer().smallestHat(0), NONE);
        Checks.due("one", onTheSea("sight north 0 1806;").smallestHat(0), NONE);
        Checks.due("two", onTheSea("sight north 0 1806;sight east 0 1804;").smallestHat(0), NONE);
        Checks.due("three", onTheSea("sight north 0 1806;sight east 0 1804;sight west 0 1804;").smallestHat(0), NONE);
        Checks.due("four", onTheSea("sight north 0 1806;sight south 0 1806;sight east 0 1804;sight west 0 1804;")
                .smallestHat(0), NONE);
        Checks.due("not quite", lines(new int[][] {{1090, EAST, 300}, {1436, EAST, 301}, {-2000, EAST, 302}}).smallestHat(0),
                NONE);
    }

    /** Promise 16: "as 10000 * one + 100 * two + three": the only hat, and one of the area 0. */
    static void p16TheOnlyHat() {
        Checks.due("three lines", lines(SLANTING).smallestHat(0), 102);
        Checks.due("at 5000", lines(SLANTING).smallestHat(5000), 102);
        SightReducer small = lines(new int[][] {{-1259, EAST, 1609}, {1211, EAST, 1884}, {3478, EAST, 1313}});
        Checks.due("area 0", small.smallestHat(0), 102);
    }

    /** Promise 16: "among all three different sights in ascending order": the last three of 12 sights. */
    static void p16TheLastThreeOfTwelve() {
        StringBuilder sights = new StringBuilder("body mid 1800 18000;body slant -1800 18000;");
        for (int sight = 0; sight < 9; sight++) {
            sights.append("sight north 0 ").append(2400 + 100 * sight).append(';');
        }
        SightReducer x = onTheSea(sights + "sight east 0 1804;sight mid 0 1600;sight slant 0 1610;");
        Checks.due("sights", x.told(2), 12);
        Checks.due("area", x.hat(9, 10, 11, 0, 0), 9599);
        Checks.due("smallest", x.smallestHat(0), 91011);
    }

    /** Promise 16: "the hat with the smallest area": the first sight is in it, the second is not. */
    static void p16TheSmallestIsNotTheFirst() {
        SightReducer x = onTheSea("body mid 1800 18000;sight north 0 1906;sight north 0 1806;sight east 0 1804;"
                + "sight mid 0 1600;");
        Checks.due("area", x.hat(0, 2, 3, 0, 0), 11);
        Checks.due("area", x.hat(1, 2, 3, 0, 0), 3743);
        Checks.due("smallest", x.smallestHat(0), 203);
        SightReducer y = onTheSea("body mid 1800 18000;sight north 0 1806;sight north 0 1906;sight east 0 1804;"
                + "sight mid 0 1600;");
        Checks.due("smallest", y.smallestHat(0), 10203);
    }

    /** Promise 16: "the first one in this order on a tie". */
    static void p16TheFirstOneOnATie() {
        Checks.due("the last sight twice", onTheSea("body mid 1800 18000;sight north 0 1806;sight east 0 1804;"
                + "sight mid 0 1600;sight mid 0 1600;").smallestHat(0), 102);
        Checks.due("the middle sight twice", onTheSea("body mid 1800 18000;sight north 0 1806;sight east 0 1804;"
                + "sight east 0 1804;sight mid 0 1600;").smallestHat(0), 103);
        Checks.due("the first sight twice", onTheSea("body mid 1800 18000;sight north 0 1806;sight north 0 1806;"
                + "sight east 0 1804;sight mid 0 1600;").smallestHat(0), 203);
    }

    /** Promise 16: a sight that was dropped is in no hat any more. */
    static void p16WithoutADroppedSight() {
        SightReducer x = onTheSea("body mid 1800 18000;sight north 0 1806;sight east 0 1804;sight mid 0 1600;"
                + "sight north 0 1906;");
        Checks.due("smallest", x.smallestHat(0), 10203);
        x.drop(3);
        Checks.due("smallest of three", x.smallestHat(0), 102);
        x.drop(2);
        Checks.due("two sights", x.smallestHat(0), NONE);
    }

    // ---- Inside a hat ----

    /** The nine places around a place: inside, from the south-west to the north-east, a row of three from west to east. */
    private static void around(SightReducer x, int east, int north, String due) {
        for (int[] sights : ORDERS) {
            StringBuilder found = new StringBuilder();
            for (int place = 0; place < 9; place++) {
                int placeEast = east + place % 3 - 1;
                int placeNorth = north + place / 3 - 1;
                found.append(x.isInside(sights[0], sights[1], sights[2], 0, placeEast, placeNorth) ? 'x' : '.');
            }
            Checks.due("around " + east + " " + north, found.toString(), due);
        }
    }

    /** Promise 17: "inside the hat of three sights or on its border": the three corners. */
    static void p17TheCorners() {
        SightReducer x = lines(SLANTING);
        around(x, CORNERS[0][0], CORNERS[0][1], "..." + ".x." + ".x.");
        around(x, CORNERS[1][0], CORNERS[1][1], "..x" + ".x." + "...");
        around(x, CORNERS[2][0], CORNERS[2][1], "x.." + "xx." + "...");
    }

    /** Promise 17: "or on its border": a place on each of the three sides between the corners. */
    static void p17TheBorders() {
        SightReducer x = lines(SLANTING);
        around(x, -504476, 51168, "..x" + ".xx" + ".xx");
        around(x, -501811, 47231, "x.." + "xx." + "xx.");
        around(x, -499342, 71576, "xxx" + "xx." + "...");
        around(x, -500747, 62764, "xxx" + "xxx" + "xxx");
    }

    /** Promise 17: "on the same side of each two crossings as the third one": on the lines, beyond the corners. */
    static void p17BeyondTheCorners() {
        SightReducer x = lines(SLANTING);
        int[][] places = {{-502634, 39116}, {-510002, 87324}, {-505299, 43053}, {-487859, 63943}, {-518820, 91020},
            {-479864, 52132}};
        for (int[] place : places) {
            Checks.due("at " + place[0], x.isInside(0, 1, 2, 0, place[0], place[1]), false);
        }
    }

    /** Promise 17: "a cross product of 0 counts for both sides": all crossings in one place. */
    static void p17AHatWithoutAnyArea() {
        SightReducer x = Checks.loaded(SEA + "body mid 1800 18000;sight north 0 1801;sight east 0 1801;sight mid 0 1537;");
        meet(x, 0, 1, 0, 0);
        meet(x, 0, 2, 0, 0);
        meet(x, 1, 2, 0, 0);
        Checks.due("there", x.isInside(0, 1, 2, 0, 0, 0), true);
        Checks.due("far from there", x.isInside(0, 1, 2, 0, 1000000, -1000000), true);
    }

    /** Promise 17: "a cross product of 0 counts for both sides": three places in a row, so all places are inside. */
    static void p17CrossingsInARow() {
        SightReducer x = lines(new int[][] {{-695, EAST, 408}, {1798, WEST, 611}, {554, EAST, 1500}});
        meet(x, 0, 1, 102673, 299157);
        meet(x, 0, 2, 102673, 299155);
        meet(x, 1, 2, 102673, 299156);
        around(x, 102673, 299156, "xxx" + "xxx" + "xxx");
        around(x, -99999, 99999, "xxx" + "xxx" + "xxx");
    }

    /** Promise 17: cross products of 1 and -1 count for one side only: the two smallest hats. */
    static void p17CrossProductsOfOne() {
        SightReducer x = lines(new int[][] {{3135, EAST, 826}, {-809, EAST, 1030}, {1050, EAST, 1109}});
        meet(x, 0, 1, 110184, 18786);
        meet(x, 0, 2, 110183, 18787);
        meet(x, 1, 2, 110184, 18785);
        around(x, 110184, 18786, ".x." + ".x." + "x..");
        hats(x, 0, 110183, 18786);
        SightReducer y = lines(new int[][] {{2945, WEST, 1158}, {-1713, WEST, 461}, {-652, WEST, 766}});
        meet(y, 0, 1, -91865, 73609);
        meet(y, 0, 2, -91865, 73608);
        meet(y, 1, 2, -91866, 73611);
        around(y, -91865, 73609, ".x." + ".x." + "...");
        hats(y, 0, -91866, 73609);
    }

    /** Promise 17: "east: -1000000 to 1000000", "north: -1000000 to 1000000". */
    static void p17TheEndsOfThePlaces() {
        SightReducer x = lines(SLANTING);
        int most = 1000000;
        for (int[] place : new int[][] {{most, most}, {most, -most}, {-most, most}, {-most, -most}}) {
            Checks.due("at " + place[0] + " " + place[1], x.isInside(0, 1, 2, 0, place[0], place[1]), false);
        }
        for (int out : new int[] {most + 1, -most - 1, Integer.MIN_VALUE, Integer.MAX_VALUE}) {
            Checks.illegal("east " + out, () -> x.isInside(0, 1, 2, 0, out, 0));
            Checks.illegal("north " + out, () -> x.isInside(0, 1, 2, 0, 0, out));
            Checks.illegal("north " + out + " and no hat", () -> x.isInside(0, 0, 2, 0, 0, out));
        }
    }

    /** Promise 17: "false if there is no hat", and "no such sight (checked first)". */
    static void p17NoHatAndNoSight() {
        SightReducer x = lines(new int[][] {{1090, EAST, 300}, {1436, EAST, 301}, {-2000, EAST, 302}});
        Checks.due("no hat", x.isInside(0, 1, 2, 0, 30000, 1000), false);
        for (int sight : new int[] {-1, 3, Integer.MIN_VALUE, Integer.MAX_VALUE}) {
            Checks.missing("first", () -> x.isInside(sight, 1, 2, -1, 0, 0));
            Checks.missing("second", () -> x.isInside(0, sight, 2, 0, 1000001, 0));
            Checks.missing("third", () -> x.isInside(0, 1, sight, 0, 0, -1000001));
        }
    }

    // ---- The fix of all sights ----

    private static void fixed(SightReducer x, int east, int north) {
        Checks.due("east", x.fix(0, false), east);
        Checks.due("north", x.fix(0, true), north);
    }

    /** Fixes: "If it is at least 100000000000 ...; otherwise there is no fix": just that, and one less. */
    static void p18TheLeastDeterminant() {
        fixed(lines(JUST), 28413, -6584);
        fixed(lines(NOT_QUITE), HIDDEN, HIDDEN);
    }

    /** Promise 18: "HIDDEN if there is no fix": no sights, one, and parallels. */
    static void p18NoFix() {
        fixed(new SightReducer(), HIDDEN, HIDDEN);
        fixed(onTheSea("sight north 0 1806;"), HIDDEN, HIDDEN);
        fixed(onTheSea("sight north 0 1806;sight south 0 1806;sight north 0 1900;"), HIDDEN, HIDDEN);
        fixed(onTheSea("sight north 0 1806;sight east 0 1804;"), 300, 500);
    }

    /** Promises 14, 15 and 18: an answer that was known is not known any more when the lines change. */
    static void p14To18NothingIsKeptOfALaterAnswer() {
        SightReducer x = onTheSea("body mid 1800 18000;sight north 0 1806;sight east 0 1804;sight mid 0 1600;"
                + "sight south 0 1806;");
        Checks.due("a fix", x.fix(0, false) != HIDDEN, true);
        meet(x, 0, 1, 300, 500);
        meet(x, 0, 3, HIDDEN, HIDDEN);
        Checks.due("a hat", x.hat(0, 1, 2, 0, 0), 3743);
        Checks.due("no hat", x.hat(0, 1, 3, 0, 0), HIDDEN);
        Checks.due("not inside", x.isInside(0, 1, 3, 0, 300, 500), false);
        x.drop(2);
        x.drop(1);
        fixed(x, HIDDEN, HIDDEN);
        Checks.due("no hat at all", x.smallestHat(0), NONE);
        x.undo();
        fixed(x, 300, 0);
    }

    /** Fixes: "((P * C - Q * B) * 1000 / D, (Q * A - P * B) * 1000 / D)", rounded down: 15702.4 and -26416.4. */
    static void p18BothCoordinatesAreRoundedDown() {
        fixed(lines(new int[][] {{1800, EAST, 300}, {-1300, WEST, 300}, {-900, EAST, 300}}), 15702, -26417);
    }

    /** Fixes: "with D as the determinant / 1000", rounded down before it divides: one less each than without it. */
    static void p18TheDeterminantIsRoundedDown() {
        fixed(lines(new int[][] {{-2744, EAST, 3618}, {916, WEST, 583}}), -271682, -770953);
        fixed(lines(new int[][] {{2542, WEST, 4182}, {998, WEST, 3000}}), -188667, 414776);
    }

    /** Promises 18 and 19: "with the lines carried to it", "the line carried to the time": at three times. */
    static void p18p19FixAndResidualsAreCarried() {
        SightReducer x = Checks.loaded("leg 0 5400 60;body e 0 17100;body n 3600 20700;sight e 60 1801;sight n 60 1806;"
                + "sight e 60 1811;");
        int[][] due = {{0, -101, 596}, {60, 499, 596}, {120, 1099, 595}};
        int[] residuals = {499, -2, -501};
        for (int[] row : due) {
            Checks.due("east at " + row[0], x.fix(row[0], false), row[1]);
            Checks.due("north at " + row[0], x.fix(row[0], true), row[2]);
            for (int sight = 0; sight < 3; sight++) {
                Checks.due("residual at " + row[0], x.residual(sight, row[0]), residuals[sight]);
            }
            Checks.due("worst at " + row[0], x.worst(row[0]), 2);
            Checks.due("mean at " + row[0], x.meanResidual(row[0]), 1002 / 3.0);
        }
    }

    private static void limitedFix(int side, int[] row) {
        fixed(lines(new int[][] {{row[0], side, row[1]}, {row[2], side, row[3]}}), row[4], row[5]);
    }

    /** Fixes: "each limited to 1000000": 999999, 1000000, 1000001, -1000000 and -1000001 to the east. */
    static void p18LimitedInTheEastAndWest() {
        limitedFix(EAST, new int[] {-2996, 742, -1749, 5094, 999999, 744705});
        limitedFix(EAST, new int[] {-3267, 910, -2126, 4640, 1000000, 603390});
        limitedFix(EAST, new int[] {-1882, 4939, -3101, 796, 1000000, 689412});
        limitedFix(WEST, new int[] {-2060, 4476, -3184, 670, -1000000, 668763});
        limitedFix(WEST, new int[] {1964, 4715, 3191, 543, -1000000, -681744});
    }

    /** Fixes: "each limited to 1000000": 999999 to 1000001 and -999999 to -1000001 to the north. */
    static void p18LimitedInTheNorthAndSouth() {
        limitedFix(WEST, new int[] {-427, 372, 850, 4042, -162895, 999999});
        limitedFix(EAST, new int[] {512, 1302, 1676, 4509, -20155, 1000000});
        limitedFix(WEST, new int[] {10, 4552, -1212, 781, -452243, 1000000});
        limitedFix(EAST, new int[] {916, 854, -426, 4851, 362887, -999999});
        limitedFix(EAST, new int[] {-104, 886, -1476, 4692, 57567, -1000000});
        limitedFix(WEST, new int[] {-505, 4683, 626, 1360, -323932, -1000000});
    }

    /** Promises 19 to 23: what is answered when the determinant is 99999999999: HIDDEN, NONE and 0. */
    static void p19To23WithoutAFix() {
        for (SightReducer x : new SightReducer[] {lines(NOT_QUITE), onTheSea("sight north 0 1806;")}) {
            Checks.due("promise 19", x.residual(0, 0), HIDDEN);
            Checks.due("promise 20", x.worst(0), NONE);
            Checks.due("promise 21", x.offCourse(0), HIDDEN);
            Checks.due("promise 22, set", x.unknownCurrent(1, false), HIDDEN);
            Checks.due("promise 22, drift", x.unknownCurrent(1, true), HIDDEN);
            Checks.due("promise 23", x.meanResidual(0), 0.0);
        }
        SightReducer none = new SightReducer();
        Checks.due("promise 20, no sights", none.worst(0), NONE);
        Checks.due("promise 21, no sights", none.offCourse(0), HIDDEN);
        Checks.due("promise 22, no sights", none.unknownCurrent(1, true), HIDDEN);
        Checks.due("promise 23, no sights", none.meanResidual(0), 0.0);
    }

    /** Promises 19 to 23: what is answered when the determinant is just 100000000000. */
    static void p19To23WithTheLeastDeterminant() {
        SightReducer x = lines(JUST);
        int[] residuals = {-56, 167, -20, -96};
        for (int sight = 0; sight < 4; sight++) {
            Checks.due("promise 19", x.residual(sight, 0), residuals[sight]);
        }
        Checks.due("promise 20", x.worst(0), 1);
        Checks.due("promise 21", x.offCourse(0), 29165);
        Checks.due("promise 22, set", x.unknownCurrent(60, false), 6178);
        Checks.due("promise 22, drift", x.unknownCurrent(60, true), 2916);
        Checks.due("promise 23", x.meanResidual(0), (56 + 167 + 20 + 96) / 4.0);
    }

    /** Promise 19: "(east * sine + north * cosine) / 1000000", rounded down, of the limited fix. */
    static void p19TheResidualIsRoundedDown() {
        SightReducer x = lines(new int[][] {{1800, EAST, 300}, {-1300, WEST, 300}, {-900, EAST, 300}});
        int[] residuals = {-28529, -33702, -6862};
        for (int sight = 0; sight < 3; sight++) {
            Checks.due("residual", x.residual(sight, 0), residuals[sight]);
        }
    }

    /** Promise 20: "the greatest absolute value, the first one on a tie". */
    static void p20TheFirstOneOnATie() {
        Checks.due("all 0", onTheSea("sight north 0 1806;sight east 0 1804;").worst(0), 0);
        Checks.due("-200 and -200", onTheSea("sight north 0 1806;sight east 0 1804;sight west 0 1802;").worst(0), 1);
        SightReducer x = onTheSea("sight east 0 1804;sight north 0 1806;sight north 0 1802;");
        Checks.due("residual", x.residual(1, 0), -200);
        Checks.due("residual", x.residual(2, 0), 200);
        Checks.due("-200 and 200", x.worst(0), 1);
        SightReducer y = onTheSea("sight east 0 1804;sight north 0 1802;sight north 0 1806;");
        Checks.due("200 and -200", y.worst(0), 1);
        SightReducer z = onTheSea("sight north 0 1802;sight north 0 1806;sight north 0 1806;sight east 0 1804;");
        Checks.due("the greatest", z.worst(0), 0);
    }

    /** Promises 20 and 23: a sight that was dropped counts no more. */
    static void p20p23WithoutADroppedSight() {
        SightReducer x = onTheSea("sight north 0 1806;sight north 0 1806;sight east 0 1804;sight north 0 1906;");
        Checks.due("the worst", x.worst(0), 3);
        Checks.due("the mean of 3333, 3333, 0 and 6667", x.meanResidual(0), 13333 / 4.0);
        x.drop(3);
        Checks.due("all are 0", x.worst(0), 0);
        Checks.due("the mean of 0, 0 and 0", x.meanResidual(0), 0.0);
    }

    /** Promise 20: the last one of 12 sights. */
    static void p20TheLastOfTwelve() {
        StringBuilder sights = new StringBuilder("sight east 0 1804;");
        for (int sight = 1; sight < 11; sight++) {
            sights.append("sight north 0 1806;");
        }
        Checks.due("worst", onTheSea(sights + "sight north 0 1817;").worst(0), 11);
    }

    /**
     * Two lines that meet x east and y north of the ship at the time 6: each is 100 * k from the reckoned place, and
     * the ship a bit, below 100, east and north of that.
     */
    private static SightReducer beside(int x, int y) {
        int minutesEast = -Math.floorDiv(-x, 100);
        int minutesNorth = -Math.floorDiv(-y, 100);
        String legs = "leg 0 5400 " + 2 * (100 * minutesEast - x) + ";leg 3 0 " + 2 * (100 * minutesNorth - y) + ";";
        return Checks.loaded(legs + "body n 3600 21510;body e 0 17910;sight n 6 " + (1801 + minutesNorth)
                + ";sight e 6 " + (1801 + minutesEast) + ";");
    }

    /** Promise 21: "the greatest integer whose square is at most the sum of the squares": just below and at a square. */
    static void p21TheRootIsRoundedDown() {
        int[][] due = {{0, 0, 0}, {0, 1, 1}, {1, 0, 1}, {1, 1, 1}, {2, 2, 2}, {3, 0, 3}, {3, 1, 3}, {3, 4, 5}, {-3, -4, 5},
            {5, 5, 7}, {8, 4, 8}, {9, 0, 9}, {9, 1, 9}, {0, -9, 9}, {-1, 3379, 3379}};
        for (int[] row : due) {
            Checks.due("beside " + row[0] + " " + row[1], beside(row[0], row[1]).offCourse(6), row[2]);
        }
    }

    private static void set(int x, int y, int due) {
        Checks.due("set to " + x + " " + y, beside(x, y).unknownCurrent(6, false), due);
    }

    /** Promise 22: "it is a, if x and y are at least 0": also where one of them is 0. */
    static void p22SetToTheNorthEast() {
        set(0, 5, 0);
        set(5, 0, 5400);
        set(3, 4, 2215);
        set(1, 3379, 0);
        set(1, 3378, 1);
    }

    /** Promise 22: "10800 - a, if only y is less than 0": also where x is 0. */
    static void p22SetToTheSouthEast() {
        set(0, -5, 10800);
        set(3, -4, 8585);
        set(0, -1, 10800);
    }

    /** Promise 22: "10800 + a, if both are". */
    static void p22SetToTheSouthWest() {
        set(-3, -4, 13015);
        set(-1, -1, 16200);
        set(-1, -1400, 10802);
    }

    /** Promise 22: "21600 - a otherwise (and 0 instead of 21600)": also where y is 0. */
    static void p22SetToTheNorthWest() {
        set(-5, 0, 16200);
        set(-3, 4, 19385);
        set(-1, 3378, 21599);
        set(-1, 3379, 0);
        set(-1, 3400, 0);
    }

    /** Promise 22: "the arc a of |x| * 1000000 / r", where r, being rounded down, is |x| itself. */
    static void p22TheArcOfAMillion() {
        set(1, 1, 5400);
        set(2, 2, 5400);
        set(7, 1, 5400);
        set(4, 4, 3195);
        set(5, 5, 2741);
    }

    /** Promise 22: "0 if r is 0", which is the drift then, too. */
    static void p22NoDistance() {
        set(0, 0, 0);
        Checks.due("drift", beside(0, 0).unknownCurrent(6, true), 0);
    }

    /** Promise 22: "the drift: 6 * offCourse / time", rounded down. */
    static void p22TheDriftIsRoundedDown() {
        int[][] due = {{6, 5}, {7, 4}, {29, 1}, {30, 1}, {31, 0}, {5000, 0}};
        for (int[] row : due) {
            Checks.due("drift at " + row[0], beside(3, 4).unknownCurrent(row[0], true), row[1]);
        }
    }

    /** Promise 22: "time: 1 to 5000". */
    static void p22TheEndsOfTime() {
        SightReducer x = onTheSea("sight north 0 1806;sight east 0 1804;");
        Checks.due("off course", x.offCourse(1), 583);
        Checks.due("drift at 1", x.unknownCurrent(1, true), 6 * 583);
        Checks.due("drift at 5000", x.unknownCurrent(5000, true), 0);
        Checks.due("set at 1", x.unknownCurrent(1, false), x.unknownCurrent(5000, false));
        for (int time : new int[] {0, -1, 5001, Integer.MIN_VALUE, Integer.MAX_VALUE}) {
            Checks.illegal("set at " + time, () -> x.unknownCurrent(time, false));
            Checks.illegal("drift at " + time, () -> x.unknownCurrent(time, true));
        }
    }

    /** Promises 16, 18, 20, 21 and 23: "if time is out of range": 0 and 5000 are in it, -1 and 5001 are not. */
    static void p16To23TheEndsOfTime() {
        SightReducer x = onTheSea("sight north 0 1806;sight east 0 1804;");
        for (int time : new int[] {0, 5000}) {
            Checks.due("promise 16", x.smallestHat(time), NONE);
            Checks.due("promise 18", x.fix(time, true), 500);
            Checks.due("promise 19", x.residual(1, time), 0);
            Checks.due("promise 20", x.worst(time), 0);
            Checks.due("promise 21", x.offCourse(time), 583);
            Checks.due("promise 23", x.meanResidual(time), 0.0);
        }
        for (SightReducer y : new SightReducer[] {x, new SightReducer()}) {
            for (int time : new int[] {-1, 5001, Integer.MIN_VALUE, Integer.MAX_VALUE}) {
                Checks.illegal("promise 16", () -> y.smallestHat(time));
                Checks.illegal("promise 18", () -> y.fix(time, false));
                Checks.illegal("promise 20", () -> y.worst(time));
                Checks.illegal("promise 21", () -> y.offCourse(time));
                Checks.illegal("promise 22", () -> y.unknownCurrent(time, true));
                Checks.illegal("promise 23", () -> y.meanResidual(time));
            }
        }
    }

    /** Promise 23: "as doubles (both converted to double, then divided)": nothing is rounded down. */
    static void p23TheMeanIsADouble() {
        SightReducer x = onTheSea("sight north 0 1806;sight east 0 1804;sight west 0 1802;");
        Checks.due("400 of three", x.meanResidual(0), 133.33333333333334);
        Checks.due("residuals of both signs", onTheSea("sight east 0 1804;sight north 0 1806;sight north 0 1802;")
                .meanResidual(0), 133.33333333333334);
    }
}
