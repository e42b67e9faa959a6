/** The edges that "Sights" names, with promises 8 (body), 12 (sight), 13 (carried), 24, 25, 26 and 29. */
public final class SightsTest {
    private static final int APPARENT = 3;
    private static final int OBSERVED = 4;
    private static final int EXPECTED = 5;
    private static final int AZIMUTH = 6;
    private static final int INTERCEPT = 7;
    private static final int OFFSET = 8;

    public static void main(String[] args) throws Exception {
        Checks.runAll(SightsTest.class);
    }

    private static void due(SightReducer x, int sight, int what, int due) {
        Checks.due("sight " + sight + " property " + what, x.sight(sight, what), due);
    }

    /** The only sight of a text: its expected altitude, azimuth and intercept. */
    private static void reduced(String text, int expected, int azimuth, int intercept) {
        SightReducer x = Checks.loaded(text);
        Checks.due(text + " expected altitude", x.sight(0, EXPECTED), expected);
        Checks.due(text + " azimuth", x.sight(0, AZIMUTH), azimuth);
        Checks.due(text + " intercept", x.sight(0, INTERCEPT), intercept);
    }

    // ---- The eye, the index error, the altitudes ----

    /** Promise 29: "dip is the greatest integer whose square is at most 3 * h", for each height. */
    static void p29TheDipOfEachHeight() {
        int[] dips = {0, 1, 2, 3, 3, 3, 4, 4, 4, 5, 5, 5, 6, 6, 6, 6, 6, 7, 7, 7, 7, 7, 8, 8, 8, 8, 8, 9, 9, 9, 9, 9, 9,
            9, 10, 10, 10, 10, 10, 10, 10, 11, 11, 11, 11, 11, 11, 11, 12, 12, 12};
        SightReducer x = Checks.loaded("body a 0 0;sight a 0 1000;");
        for (int height = 0; height <= 50; height++) {
            Checks.due("dip of " + height, x.correct(height, 0), dips[height]);
            due(x, 0, APPARENT, 1000 - dips[height]);
        }
    }

    /** Promise 29: the dip changes just where 3 * h reaches a square: 9, 36, 81 and 144. */
    static void p29TheDipOfASquare() {
        SightReducer x = new SightReducer();
        int[][] dips = {{2, 2}, {3, 3}, {11, 5}, {12, 6}, {26, 8}, {27, 9}, {47, 11}, {48, 12}};
        for (int[] dip : dips) {
            Checks.due("dip of " + dip[0], x.correct(dip[0], 0), dip[1]);
        }
    }

    /** Promise 29: "Throws ... if height is not 0 to 50 or index is not -60 to 60": both ends are taken. */
    static void p29TheEndsOfTheRangesAreTaken() {
        SightReducer x = new SightReducer();
        Checks.due("dip", x.correct(50, 60), 12);
        Checks.due("height", x.told(5), 50);
        Checks.due("index error", x.told(6), 60);
        Checks.due("dip", x.correct(0, -60), 0);
        Checks.due("height", x.told(5), 0);
        Checks.due("index error", x.told(6), -60);
    }

    /** Promise 12: "The apparent altitude is the sextant altitude + i - dip", at the ends of all three. */
    static void p12TheEndsOfTheApparentAltitudes() {
        SightReducer low = Checks.loaded("eye 50;index -60;body a 0 0;sight a 0 300;");
        due(low, 0, APPARENT, 228);
        due(low, 0, OBSERVED, 214);
        SightReducer high = Checks.loaded("index 60;body a 0 0;sight a 0 5100;");
        due(high, 0, APPARENT, 5160);
        due(high, 0, OBSERVED, 5160);
        SightReducer plain = Checks.loaded("body a 0 0;sight a 0 300;sight a 0 5100;");
        due(plain, 0, APPARENT, 300);
        due(plain, 0, OBSERVED, 289);
        due(plain, 1, APPARENT, 5100);
        due(plain, 1, OBSERVED, 5100);
    }

    /** Promise 12: "the refraction, which is the cosine of the apparent altitude divided by its sine", rounded down. */
    static void p12TheRefractionIsRoundedDown() {
        SightReducer x = Checks.loaded("body a 0 0;sight a 0 2700;sight a 0 2701;sight a 0 1591;sight a 0 1592;"
                + "sight a 0 307;sight a 0 308;");
        int[] due = {2700 - 1, 2701, 1591 - 2, 1592 - 1, 307 - 11, 308 - 10};
        for (int sight = 0; sight < due.length; sight++) {
            due(x, sight, OBSERVED, due[sight]);
        }
    }

    // ---- Hour angles and expected altitudes ----

    /** Sights: "at the time t its hour angle is 15 * t more", past a whole turn and at the last time. */
    static void p12HourAnglesWrapAround() {
        reduced("body a 0 0;sight a 1440 1800;", 5400, 0, -3601);
        reduced("body a 0 0;sight a 1439 1800;", 5385, 5400, -3586);
        reduced("body a 0 21599;sight a 1 1800;", 5386, 16200, -3587);
        reduced("body a 0 21599;sight a 5000 1800;", -4799, 16200, 6598);
        reduced("body a 0 15000;sight a 440 1800;", 5400, 0, -3601);
    }

    /** Sights: "the local angle t = hour angle + q", also below 0 and above a turn. */
    static void p12LocalAnglesWrapAround() {
        reduced("start 0 -10799;body a 0 10798;sight a 0 1800;", 5399, 5400, -3600);
        reduced("start 0 -10799;body a 0 10799;sight a 0 1800;", 5400, 0, -3601);
        reduced("start 0 -10799;body a 0 10800;sight a 0 1800;", 5399, 16200, -3600);
        reduced("start 0 10799;body a 0 10800;sight a 0 1800;", 5399, 5400, -3600);
        reduced("start 0 10799;body a 0 10801;sight a 0 1800;", 5400, 0, -3601);
        reduced("start 0 10799;body a 0 10802;sight a 0 1800;", 5399, 16200, -3600);
    }

    /** Sights: "the sum limited to 1000000"; it is 1000181 and -1000182 here, and 1000000 at the equator. */
    static void p12TheSumIsLimited() {
        reduced("start 600 0;body a 600 0;sight a 0 5100;", 5400, 0, -300);
        reduced("start 600 0;body a -600 10800;sight a 0 5100;", -5400, 0, 10500);
        reduced("start -600 0;body a -600 0;sight a 0 5100;", 5400, 0, -300);
        reduced("start -600 0;body a 600 10800;sight a 0 5100;", -5400, 0, 10500);
        reduced("body a 0 0;sight a 0 5100;", 5400, 0, -300);
        reduced("body a 0 10800;sight a 0 5100;", -5400, 0, 10500);
    }

    /** Sights: sums just within the limit, 999999 and -999999. */
    static void p12SumsJustWithinTheLimit() {
        reduced("body a 0 1;sight a 0 5100;", 5399, 16200, -299);
        reduced("body a 1 0;sight a 0 5100;", 5399, 0, -299);
        reduced("body a -1 0;sight a 0 5100;", 5399, 10800, -299);
        reduced("body a 0 10801;sight a 0 5100;", -5399, 5400, 10499);
    }

    /**
     * Sights: "(products from left to right, in millionths ...)", each rounded down: cosine p * cosine d comes first, and
     * any other rounding or order makes these altitudes a minute greater or less.
     */
    static void p12TheProductsAreRoundedDown() {
        reduced("start 2416 0;body a 703 11935;sight a 0 1801;", -2099, 1362, 3899);
        reduced("start -2843 0;body a 2436 12242;sight a 0 1801;", -4259, 6087, 6059);
        reduced("start -2428 0;body a 330 968;sight a 0 1801;", 2495, 20298, -695);
        reduced("start -958 0;body a 1356 10381;sight a 0 1801;", -4832, 18893, 6632);
        reduced("start 3381 0;body a -2344 10419;sight a 0 1801;", -4309, 20233, 6109);
        reduced("start 3600 0;leg 0 0 400;body a 3404 13963;sight a 4261 1801;", 4073, 0, -2273);
    }

    /** Sights: a body on the horizon has the expected altitude 0. */
    static void p12ABodyOnTheHorizon() {
        reduced("body a 0 16200;sight a 0 300;", 0, 5400, 289);
        reduced("body a 0 5400;sight a 0 300;", 0, 16200, 289);
        reduced("body a 3600 16200;sight a 0 300;", 0, 1800, 289);
        reduced("body a -3600 16200;sight a 0 300;", 0, 9000, 289);
        reduced("body a 3600 5400;sight a 0 300;", 0, 19800, 289);
        reduced("body a -3600 5400;sight a 0 300;", 0, 12600, 289);
    }

    // ---- Azimuths ----

    /** Sights: "it is 1000000 if the divisor is not positive": 0 overhead and underfoot, 296 a minute beside. */
    static void p12TheDivisorIsZeroOverhead() {
        reduced("body a 0 0;sight a 0 1800;", 5400, 0, -3601);
        reduced("body a 0 10800;sight a 0 1800;", -5400, 0, 7199);
        reduced("body a 0 1;sight a 0 1800;", 5399, 16200, -3600);
        reduced("body a 0 21599;sight a 0 1800;", 5399, 5400, -3600);
        reduced("body a 1 0;sight a 0 1800;", 5399, 0, -3600);
        reduced("body a -1 0;sight a 0 1800;", 5399, 10800, -3600);
    }

    /** Sights: "it is 1000000 if the divisor is not positive": 296 before the pole, 0 on it, -296 behind it. */
    static void p12TheDivisorAtThePole() {
        String north = "start 3600 0;leg 0 0 400;";
        reduced(north + "body a 0 18915;sight a 2699 1800;", 0, 5400, 1799);
        reduced(north + "body a 0 8115;sight a 2699 1800;", 0, 16200, 1799);
        reduced(north + "body a 0 18900;sight a 2700 1800;", 0, 0, 1799);
        reduced(north + "body a 0 8100;sight a 2700 1800;", 0, 0, 1799);
        reduced(north + "body a 0 18885;sight a 2702 1800;", 0, 0, 1799);
        SightReducer x = Checks.loaded(north);
        Checks.due("a minute before the pole", x.reckoned(2699, false), 5399);
        Checks.due("at the pole", x.reckoned(2700, false), 5400);
        Checks.due("a minute behind the pole", x.reckoned(2702, false), 5401);
    }

    /** Sights: "(sine d - sine p * sine H) * 1000000 / (cosine p * cosine H) ... limited to 1000000": 1000064, -1000995. */
    static void p12TheCosineOfTheAzimuthIsLimited() {
        reduced("start -3600 0;body a -850 21599;sight a 0 1800;", 2660, 0, -861);
        reduced("start 600 0;body a -3600 10800;sight a 0 1800;", -2409, 10800, 4208);
        reduced("start 600 0;body a -2250 0;sight a 0 1800;", 2544, 10800, -745);
    }

    /** Sights: "(sine d - sine p * sine H) * 1000000 / (cosine p * cosine H)", rounded down also below 0. */
    static void p12TheCosineOfTheAzimuthIsRoundedDown() {
        reduced("start 875 0;body a -2946 3218;sight a 0 1801;", 628, 12750, 1172);
        reduced("start -899 0;body a -3298 21468;sight a 0 1801;", 3006, 10731, -1206);
        reduced("start 868 0;body a -793 20637;sight a 0 1801;", 3480, 8996, -1680);
    }

    /** Sights: "The azimuth is z, if the sine of t is at most 0; otherwise 21600 - z", just at t = 0. */
    static void p12TheSineOfTheLocalAngleAtZero() {
        reduced("start 600 0;body a 1800 21599;sight a 0 1800;", 4201, 391, -2402);
        reduced("start 600 0;body a 1800 0;sight a 0 1800;", 4201, 391, -2402);
        reduced("start 600 0;body a 1800 1;sight a 0 1800;", 4201, 21209, -2402);
    }

    /** Sights: "The azimuth is z, if the sine of t is at most 0; otherwise 21600 - z", just at t = 10800. */
    static void p12TheSineOfTheLocalAngleAtHalfATurn() {
        reduced("body a 0 10799;sight a 0 1800;", -5399, 16200, 7198);
        reduced("start 600 0;body a -1800 10800;sight a 0 1800;", -4201, 10409, 6000);
        reduced("start 600 0;body a -1800 10799;sight a 0 1800;", -4201, 11191, 6000);
        reduced("body a 0 10801;sight a 0 1800;", -5399, 5400, 7198);
    }

    /** Sights: "(and 0 instead of 21600)": z is 0 while the sine of t is above 0. */
    static void p12AzimuthZeroInsteadOfAWholeTurn() {
        reduced("start -3600 0;body a -850 1;sight a 0 1800;", 2660, 0, -861);
        reduced("start 600 0;body a 1800 10799;sight a 0 1800;", -2995, 0, 4794);
        reduced("start 3600 0;leg 0 0 400;body a 0 8100;sight a 2700 1800;", 0, 0, 1799);
    }

    // ---- Offsets ----

    /** Sights: "the intercept is the observed altitude minus the expected altitude": below 0, 0 and above. */
    static void p12InterceptsAroundZero() {
        reduced("body a 3600 0;sight a 0 1800;", 1800, 0, -1);
        reduced("body a 3600 0;sight a 0 1801;", 1800, 0, 0);
        reduced("body a 3600 0;sight a 0 1802;", 1800, 0, 1);
    }

    /** Sights: "((e * sine + n * cosine) / 1000000) + 100 * intercept", with e and n from the start. */
    static void p12OffsetsFromTheStart() {
        SightReducer x = Checks.loaded("leg 0 16200 60;body a 1800 16200;body b 0 18000;sight a 10 300;sight b 10 300;");
        due(x, 0, AZIMUTH, 3599);
        // -100 * 864717 / 1000000 = -86.5, rounded down to -87, and 100 * 161
        due(x, 0, OFFSET, 16100 - 87);
        due(x, 1, OFFSET, -166000 - 100);
    }

    /** Sights: "n = 100 * (p - latitude of the start)": whole minutes, north and south of a start that is not 0. */
    static void p12OffsetsNorthAndSouthOfTheStart() {
        SightReducer north = Checks.loaded("start 1000 500;leg 0 0 400;body a 3600 20200;sight a 61 1801;");
        Checks.due("4066 to the north are 40 minutes", north.reckoned(61, false), 1040);
        due(north, 0, AZIMUTH, 0);
        due(north, 0, OFFSET, -104900 + 4000);
        SightReducer south = Checks.loaded("start -1000 500;leg 0 10800 400;body a -3600 20200;sight a 61 1801;");
        Checks.due("4066 to the south are 41 minutes", south.reckoned(61, false), -1041);
        due(south, 0, AZIMUTH, 10800);
        due(south, 0, OFFSET, -105000 + 4100);
    }

    /** Sights: "((e * sine + n * cosine) / 1000000) + 100 * intercept", rounded down, with both e and n. */
    static void p12OffsetsWithBothParts() {
        SightReducer ahead = Checks.loaded("leg 0 2700 400;body a 1800 17100;sight a 60 1801;");
        due(ahead, 0, AZIMUTH, 3381);
        due(ahead, 0, OFFSET, 22600 + 3877);
        SightReducer astern = Checks.loaded("leg 0 13500 400;body a 1800 17100;sight a 60 1801;");
        due(astern, 0, AZIMUTH, 3373);
        due(astern, 0, OFFSET, 30600 - 4018);
    }

    /** Sights: "e = (q - longitude of the start ...) * (cosine of the latitude of the start) / 10000", at latitude 3600. */
    static void p12OffsetsAtTheEndOfTheLatitudes() {
        SightReducer x = Checks.loaded("start 3600 0;leg 0 5400 60;body east 0 18000;body west 0 3600;"
                + "sight east 7 1801;sight west 7 1801;");
        Checks.due("70 to the east are one minute", x.reckoned(7, true), 1);
        due(x, 0, OFFSET, 89144);
        due(x, 1, OFFSET, 98454);
    }

    /** Sights: "* (cosine of the latitude of the start) / 10000", rounded down: -98.46 and -196.9 to the west. */
    static void p12TheWayToTheEastIsRoundedDown() {
        SightReducer one = Checks.loaded("start 600 0;leg 0 16200 6;body a 0 17000;sight a 60 1801;");
        due(one, 0, AZIMUTH, 5719);
        due(one, 0, OFFSET, 13000 - 99);
        SightReducer two = Checks.loaded("start 600 0;leg 0 16200 6;body a 0 17000;sight a 160 1801;");
        due(two, 0, AZIMUTH, 6187);
        due(two, 0, OFFSET, -132800 - 192);
    }

    /** Sights: "as a difference from -10800 to 10799": the start and the sight on two sides of 10800. */
    static void p12TheDifferenceOfLongitudesWrapsAround() {
        SightReducer east = Checks.loaded("start 0 10790;leg 0 5400 400;body a 0 7210;sight a 30 1801;");
        Checks.due("20 minutes to the east", east.reckoned(30, true), -10790);
        due(east, 0, AZIMUTH, 5400);
        Checks.due("e is 2000", east.sight(0, OFFSET) - 100 * east.sight(0, INTERCEPT), 2000);
        SightReducer west = Checks.loaded("start 0 -10790;leg 0 16200 400;body a 0 18000;sight a 30 1801;");
        Checks.due("20 minutes to the west", west.reckoned(30, true), 10790);
        due(west, 0, AZIMUTH, 16200);
        Checks.due("e is -2000", west.sight(0, OFFSET) - 100 * west.sight(0, INTERCEPT), 2000);
    }

    /** Promise 13: "the offset increases by ... the displacement then minus the displacement at the time of the sight". */
    static void p13EarlierAtTheTimeAndLater() {
        SightReducer x = Checks.loaded("leg 0 5400 6;body a 1800 16175;body b 1800 5375;sight a 5 300;sight b 5 300;");
        int[] east = {24595, 24596, 24597, 24598, 24599, 24600, 24600};
        int[] west = {33204, 33203, 33202, 33201, 33200, 33200, 33199};
        for (int time = 0; time <= 6; time++) {
            Checks.due("toward at " + time, x.carried(0, time), east[time]);
            Checks.due("away at " + time, x.carried(1, time), west[time]);
        }
        due(x, 0, OFFSET, 24600);
        due(x, 1, OFFSET, 33200);
    }

    /** Promise 13: "the offset increases": the offset of a sight beside the start, which is not 100 * intercept. */
    static void p13TheOffsetOfASightBesideTheStart() {
        SightReducer x = Checks.loaded("leg 0 5400 60;body e 0 17100;body n 3600 20700;sight e 60 1801;sight n 60 1806;");
        int[][] due = {{0, -600, 599}, {60, 0, 588}, {120, 600, 576}};
        for (int[] row : due) {
            Checks.due("east at " + row[0], x.carried(0, row[0]), row[1]);
            Checks.due("north at " + row[0], x.carried(1, row[0]), row[2]);
        }
        due(x, 0, INTERCEPT, -6);
        due(x, 1, INTERCEPT, 6);
    }

    /** Promise 13: "Throws IllegalArgumentException if time is out of range": the ends 0 and 5000 are in it. */
    static void p13TheEndsOfTime() {
        SightReducer x = Checks.loaded("leg 0 5400 6;body a 0 18000;sight a 0 1801;");
        Checks.due("at 0", x.carried(0, 0), 0);
        Checks.due("at 5000", x.carried(0, 5000), 5000);
    }

    // ---- Tables ----

    /** Sights: "numbered from 0 in the order in which they were told", not in that of their times. */
    static void p12SightsAreNumberedAsTold() {
        SightReducer x = Checks.loaded("body a 0 0;body b 0 0;sight b 9 400;sight a 5 500;sight a 7 600;");
        int[][] due = {{1, 9, 400}, {0, 5, 500}, {0, 7, 600}};
        for (int sight = 0; sight < 3; sight++) {
            for (int what = 0; what < 3; what++) {
                due(x, sight, what, due[sight][what]);
            }
        }
    }

    /** Promise 8: "if there is no such body or what is out of range": with no body, one and all 6. */
    static void p8BodiesThatAreNotThere() {
        SightReducer none = new SightReducer();
        Checks.missing("body 0 of none", () -> none.body(0, 0));
        SightReducer one = Checks.loaded("body abcdefgh -3600 21599;");
        int[] due = {-3600, 21599, 8, 0};
        for (int what = 0; what < 4; what++) {
            Checks.due("property " + what, one.body(0, what), due[what]);
        }
        for (int body : new int[] {-1, 1, Integer.MIN_VALUE, Integer.MAX_VALUE}) {
            Checks.missing("body " + body, () -> one.body(body, 0));
        }
        for (int what : new int[] {-1, 4, Integer.MIN_VALUE, Integer.MAX_VALUE}) {
            Checks.missing("property " + what, () -> one.body(0, what));
        }
        SightReducer all = Checks.loaded("body a 0 0;body b 0 0;body c 0 0;body d 0 0;body e 0 0;body f 3600 0;");
        Checks.due("the last body", all.body(5, 0), 3600);
        Checks.missing("body 6", () -> all.body(6, 0));
    }

    /** Promise 8: "3 the number of sights of it": none, and all 12. */
    static void p8NoneAndAllOfTheSights() {
        SightReducer x = Checks.loaded("body a 0 0;body b 0 0;");
        Checks.due("none yet", x.body(1, 3), 0);
        for (int sight = 0; sight < 12; sight++) {
            x.observe(1, 0, 300);
            Checks.due("sights of b", x.body(1, 3), sight + 1);
        }
        Checks.due("sights of a", x.body(0, 3), 0);
        x.drop(3);
        Checks.due("without the one that was dropped", x.body(1, 3), 11);
        x.undo();
        Checks.due("undone", x.body(1, 3), 12);
    }

    /** Promise 12: "if there is no such sight or what is out of range": with no sight, one and all 12. */
    static void p12SightsThatAreNotThere() {
        SightReducer x = Checks.loaded("body a 0 0;");
        Checks.missing("sight 0 of none", () -> x.sight(0, 0));
        x.observe(0, 0, 300);
        for (int sight : new int[] {-1, 1, Integer.MIN_VALUE, Integer.MAX_VALUE}) {
            Checks.missing("sight " + sight, () -> x.sight(sight, 0));
        }
        for (int what : new int[] {-1, 9, Integer.MIN_VALUE, Integer.MAX_VALUE}) {
            Checks.missing("property " + what, () -> x.sight(0, what));
        }
        due(x, 0, OFFSET, -511100);
        for (int sight = 1; sight < 12; sight++) {
            x.observe(0, 0, 300 + sight);
        }
        due(x, 11, 2, 311);
        Checks.missing("sight 12", () -> x.sight(12, 0));
    }

    /** Promise 25: "0 to 5000", "300 to 5100": both ends are taken, and the first and the last body. */
    static void p25TheEndsOfTheRangesAreTaken() {
        SightReducer x = Checks.loaded("body a 0 0;body b 0 0;body c 0 0;");
        Checks.due("all least", x.observe(0, 0, 300), 0);
        Checks.due("all greatest", x.observe(2, 5000, 5100), 1);
        int[][] due = {{0, 0, 300}, {2, 5000, 5100}};
        for (int what = 0; what < 3; what++) {
            due(x, 0, what, due[0][what]);
            due(x, 1, what, due[1][what]);
        }
    }

    private static SightReducer twelveSights() {
        SightReducer x = Checks.loaded("body a 0 0;");
        for (int sight = 0; sight < 12; sight++) {
            Checks.due("its number", x.observe(0, sight, 300 + sight), sight);
        }
        return x;
    }

    /** Promise 25: "Returns its number; -2 if there are 12 sights", and again a number when one is dropped. */
    static void p25TwelveSights() {
        SightReducer x = twelveSights();
        Checks.due("the 13th", x.observe(0, 0, 300), -2);
        Checks.due("the 13th again", x.observe(0, 0, 300), -2);
        Checks.due("sights", x.told(2), 12);
        Checks.due("only the latest are recorded", x.undoCount(), 10);
        Checks.due("left", x.drop(0), 11);
        Checks.due("the 12th", x.observe(0, 7, 5100), 11);
        due(x, 11, 2, 5100);
        Checks.due("full again", x.observe(0, 0, 300), -2);
    }

    /** Promise 25: "if there is no such body (checked first)", before time and altitude, and all before the code -2. */
    static void p25TheOrderOfTheChecks() {
        SightReducer x = twelveSights();
        Checks.missing("body, time, altitude and full", () -> x.observe(1, -1, 0));
        Checks.missing("body and full", () -> x.observe(-1, 0, 300));
        Checks.illegal("time, altitude and full", () -> x.observe(0, 5001, 0));
        Checks.illegal("altitude and full", () -> x.observe(0, 0, 5101));
        Checks.missing("an empty table of bodies", () -> new SightReducer().observe(0, -1, 0));
    }

    /** Promise 26: "The numbers of those behind it decrease by 1": the first, a middle and the last sight. */
    static void p26TheFirstAMiddleAndTheLastSight() {
        int[][] left = {{1, 2, 3}, {0, 2, 3}, {0, 1, 3}, {0, 1, 2}};
        for (int dropped = 0; dropped < 4; dropped++) {
            SightReducer x = Checks.loaded("body a 0 0;body b 0 0;sight a 1 400;sight b 2 401;sight b 3 402;sight a 4 403;");
            Checks.due("sights left", x.drop(dropped), 3);
            for (int sight = 0; sight < 3; sight++) {
                due(x, sight, 1, left[dropped][sight] + 1);
                due(x, sight, 2, left[dropped][sight] + 400);
                due(x, sight, 0, left[dropped][sight] % 3 == 0 ? 0 : 1);
            }
            Checks.missing("sight 3", () -> x.sight(3, 0));
        }
    }

    /** Promise 26: "Returns the number of sights left", from the full table to the empty one. */
    static void p26FromFullToEmpty() {
        SightReducer x = twelveSights();
        for (int left = 11; left >= 0; left--) {
            Checks.due("sights left", x.drop(left / 2), left);
        }
        Checks.missing("no sight is left", () -> x.drop(0));
        Checks.due("told", x.told(2), 0);
    }

    /** Promise 24: "0 without sights". */
    static void p24NoSights() {
        Checks.due("no bodies", new SightReducer().meanIntercept(), 0.0f);
        SightReducer x = Checks.loaded("body a 3600 0;sight a 0 1901;");
        Checks.due("one sight", x.meanIntercept(), 100.0f);
        x.drop(0);
        Checks.due("dropped", x.meanIntercept(), 0.0f);
    }

    /** Promise 24: "their sum divided by their number, as floats": nothing is rounded down. */
    static void p24TheMeanIsAFloat() {
        SightReducer x = Checks.loaded("body a 3600 0;sight a 0 1801;sight a 0 1801;sight a 0 1802;");
        Checks.due("a third", x.meanIntercept(), 0.33333334f);
        x.observe(0, 0, 1799);
        Checks.due("minus a fourth", x.meanIntercept(), -0.25f);
        x.observe(0, 0, 1802);
        Checks.due("a fifth of 0 + 0 + 1 - 2 + 1", x.meanIntercept(), 0.0f);
        x.drop(3);
        Checks.due("without the one that was dropped", x.meanIntercept(), 0.5f);
    }
}
