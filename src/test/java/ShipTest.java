/** The edges that "The ship" names, with promises 7 (told), 9 (leg), 10 (displacement), 11 (reckoned), 27 and 28. */
public final class ShipTest {
    public static void main(String[] args) throws Exception {
        Checks.runAll(ShipTest.class);
    }

    private static void ship(SightReducer x, int time, int east, int north) {
        Checks.due("east at " + time, x.displacement(time, false), east);
        Checks.due("north at " + time, x.displacement(time, true), north);
    }

    private static void reckoned(String text, int time, int latitude, int longitude) {
        SightReducer x = Checks.loaded(text);
        Checks.due(text + " latitude at " + time, x.reckoned(time, false), latitude);
        Checks.due(text + " longitude at " + time, x.reckoned(time, true), longitude);
    }

    /** Promise 10: "Before the first leg it does not move"; "from its time on". */
    static void p10BeforeTheFirstLegTheShipRests() {
        SightReducer x = Checks.loaded("leg 10 5400 60;");
        ship(x, 0, 0, 0);
        ship(x, 9, 0, 0);
        ship(x, 10, 0, 0);
        ship(x, 11, 10, 0);
    }

    /** Promise 10: "(until the next leg)". */
    static void p10ALegEndsWhereTheNextBegins() {
        SightReducer x = Checks.loaded("leg 0 5400 60;leg 70 0 120;leg 71 16200 60;");
        ship(x, 69, 690, 0);
        ship(x, 70, 700, 0);
        ship(x, 71, 700, 20);
        ship(x, 72, 690, 20);
    }

    /** Promise 10: the last leg has no next one and goes on to the time 5000. */
    static void p10TheLastLegGoesOn() {
        ship(Checks.loaded("leg 0 5400 60;"), 5000, 50000, 0);
        ship(Checks.loaded("leg 4999 5400 60;"), 5000, 10, 0);
        ship(Checks.loaded("leg 4999 5400 60;"), 4999, 0, 0);
        ship(Checks.loaded("leg 5000 5400 60;"), 5000, 0, 0);
    }

    /** Promise 10: no legs (the empty table), and all 8 of them (the full one). */
    static void p10NoLegsAndEightLegs() {
        ship(new SightReducer(), 0, 0, 0);
        ship(new SightReducer(), 5000, 0, 0);
        SightReducer x = Checks.loaded("leg 0 5400 6;leg 1 5400 12;leg 2 5400 18;leg 3 5400 24;leg 4 5400 30;leg 5 5400 36;"
                + "leg 6 5400 42;leg 7 0 48;");
        ship(x, 7, 1 + 2 + 3 + 4 + 5 + 6 + 7, 0);
        ship(x, 9, 28, 16);
    }

    /** Promise 10: "The way of a speed s in m minutes is s * m / 6", rounded down. */
    static void p10TheWayIsRoundedDown() {
        SightReducer x = Checks.loaded("leg 0 5400 1;");
        ship(x, 5, 0, 0);
        ship(x, 6, 1, 0);
        ship(x, 11, 1, 0);
        ship(x, 12, 2, 0);
        SightReducer y = Checks.loaded("current 5400 5;");
        ship(y, 1, 0, 0);
        ship(y, 2, 1, 0);
    }

    /** Promise 10: "the sum over the parts of legs": each part has a way of its own. */
    static void p10TheWayOfEachPartIsRounded() {
        ship(Checks.loaded("leg 0 5400 1;"), 10, 1, 0);
        ship(Checks.loaded("leg 0 5400 1;leg 5 5400 1;"), 10, 0, 0);
        ship(Checks.loaded("leg 0 5400 1;current 5400 1;"), 5, 0, 0);
    }

    /** Promise 10: "(way * sine of the course / 1000000, way * cosine of the course / 1000000), each rounded down". */
    static void p10EachPartIsRoundedDown() {
        ship(Checks.loaded("leg 0 1800 6;"), 3, 1, 2);
        ship(Checks.loaded("leg 0 1800 6;leg 1 1800 6;leg 2 1800 6;"), 3, 0, 0);
        ship(Checks.loaded("leg 0 12600 6;"), 3, -2, -3);
        ship(Checks.loaded("leg 0 12600 6;leg 1 12600 6;leg 2 12600 6;"), 3, -3, -3);
        ship(Checks.loaded("leg 0 12600 6;current 12600 6;"), 1, -2, -2);
        ship(Checks.loaded("leg 0 12600 6;current 1800 6;"), 1, -1, -1);
    }

    /** Promise 10: "A current ... moves it besides, all the time", "from 0 on": also before the first leg. */
    static void p10TheCurrentRunsFromZeroOn() {
        SightReducer x = Checks.loaded("current 0 6;leg 10 5400 60;");
        ship(x, 0, 0, 0);
        ship(x, 1, 0, 1);
        ship(x, 10, 0, 10);
        ship(x, 12, 20, 12);
        ship(x, 5000, 49900, 5000);
    }

    /** The ship: "(set 0 to 21599 and drift 0 to 100, both 0 at first)". */
    static void p7TheCurrentIsZeroAtFirst() {
        SightReducer x = Checks.loaded("leg 0 0 6;");
        Checks.due("set", x.told(7), 0);
        Checks.due("drift", x.told(8), 0);
        ship(x, 6, 0, 6);
    }

    /** Promise 10: the greatest speed, drift and time at once. */
    static void p10TheFarthestDisplacements() {
        ship(Checks.loaded("leg 0 0 400;current 0 100;"), 5000, 0, 333333 + 83333);
        ship(Checks.loaded("leg 0 10800 400;current 10800 100;"), 5000, 0, -333333 - 83333);
        ship(Checks.loaded("leg 0 5400 400;current 5400 100;"), 5000, 333333 + 83333, 0);
        ship(Checks.loaded("leg 0 16200 400;current 16200 100;"), 5000, -333333 - 83333, 0);
    }

    /** Promise 10: a course of 21599 is a minute west of north, and one of 0 north. */
    static void p10TheEndsOfTheCourses() {
        // 60000 * -296 / 1000000 = -17.76, 60000 * 999999 / 1000000 = 59999.94
        ship(Checks.loaded("leg 0 21599 400;"), 900, -18, 59999);
        ship(Checks.loaded("leg 0 0 400;"), 900, 0, 60000);
        ship(Checks.loaded("leg 0 1 400;"), 900, 17, 59999);
    }

    /** Promise 10: "Throws IllegalArgumentException if time is out of range": 0 to 5000. */
    static void p10TheEndsOfTime() {
        SightReducer x = Checks.loaded("leg 0 5400 6;");
        ship(x, 0, 0, 0);
        ship(x, 5000, 5000, 0);
        for (int time : new int[] {-1, 5001, Integer.MIN_VALUE, Integer.MAX_VALUE}) {
            Checks.illegal("east at " + time, () -> x.displacement(time, false));
            Checks.illegal("north at " + time, () -> x.displacement(time, true));
        }
    }

    /** Promise 11: "the latitude of the start + north / 100", rounded down. */
    static void p11TheLatitudeIsRoundedDown() {
        reckoned("leg 0 0 6;", 99, 0, 0);
        reckoned("leg 0 0 6;", 100, 1, 0);
        reckoned("leg 0 10800 6;", 1, -1, 0);
        reckoned("leg 0 10800 6;", 100, -1, 0);
        reckoned("leg 0 10800 6;", 101, -2, 0);
        reckoned("start -5 0;leg 0 0 6;", 499, -1, 0);
        reckoned("start -5 0;leg 0 0 6;", 500, 0, 0);
    }

    /** Promise 11: "the longitude of the start + east * 10000 / (cosine of the latitude of the start)", rounded down. */
    static void p11TheLongitudeIsRoundedDown() {
        reckoned("leg 0 5400 6;", 99, 0, 0);
        reckoned("leg 0 5400 6;", 100, 0, 1);
        reckoned("leg 0 16200 6;", 1, 0, -1);
        reckoned("leg 0 16200 6;", 100, 0, -1);
        reckoned("leg 0 16200 6;", 101, 0, -2);
    }

    /** Promise 11: "(cosine of the latitude of the start)", not of the latitude at the time. */
    static void p11TheCosineOfTheStart() {
        reckoned("leg 0 0 400;leg 900 5400 400;", 1050, 600, 100);
        reckoned("start 3600 0;leg 0 10800 400;leg 900 5400 400;", 1050, 3000, 200);
    }

    /** Promise 11: the cosine at the ends of the latitudes is 500000, and north goes beyond these ends. */
    static void p11TheEndsOfTheLatitudes() {
        reckoned("start 3600 0;leg 0 5400 6;", 49, 3600, 0);
        reckoned("start 3600 0;leg 0 5400 6;", 50, 3600, 1);
        reckoned("start -3600 0;leg 0 16200 6;", 50, -3600, -1);
        reckoned("start -3600 0;leg 0 16200 6;", 51, -3600, -2);
        reckoned("start 3600 0;leg 0 0 400;current 0 100;", 5000, 3600 + 4166, 0);
        reckoned("start -3600 0;leg 0 10800 400;current 10800 100;", 5000, -3600 - 4167, 0);
    }

    /** Promise 11: "turned into -10800 to 10799 by adding or subtracting 21600", in the east. */
    static void p11TheEastEndWrapsAround() {
        reckoned("start 0 10799;leg 0 5400 6;", 0, 0, 10799);
        reckoned("start 0 10799;leg 0 5400 6;", 99, 0, 10799);
        reckoned("start 0 10799;leg 0 5400 6;", 100, 0, -10800);
        reckoned("start 0 10799;leg 0 5400 6;", 200, 0, -10799);
        // 416666 * 10000 / 500000 = 8333, and 10799 + 8333 - 21600 = -2468
        reckoned("start 3600 10799;leg 0 5400 400;current 5400 100;", 5000, 3600, -2468);
    }

    /** Promise 11: "turned into -10800 to 10799 by adding or subtracting 21600", in the west. */
    static void p11TheWestEndWrapsAround() {
        reckoned("start 0 -10799;leg 0 16200 6;", 0, 0, -10799);
        reckoned("start 0 -10799;leg 0 16200 6;", 1, 0, -10800);
        reckoned("start 0 -10799;leg 0 16200 6;", 100, 0, -10800);
        reckoned("start 0 -10799;leg 0 16200 6;", 101, 0, 10799);
        // -416666 * 10000 / 500000 = -8333.32, and -10799 - 8334 + 21600 = 2467
        reckoned("start -3600 -10799;leg 0 16200 400;current 16200 100;", 5000, -3600, 2467);
    }

    /** Promise 11: "Throws IllegalArgumentException if time is out of range": 0 to 5000. */
    static void p11TheEndsOfTime() {
        reckoned("leg 0 5400 60;", 5000, 0, 500);
        SightReducer x = new SightReducer();
        Checks.due("latitude at 0", x.reckoned(0, false), 0);
        for (int time : new int[] {-1, 5001, Integer.MIN_VALUE, Integer.MAX_VALUE}) {
            Checks.illegal("latitude at " + time, () -> x.reckoned(time, false));
            Checks.illegal("longitude at " + time, () -> x.reckoned(time, true));
        }
    }

    /** Promise 9: "if there is no such leg or what is out of range": with no leg, one and all 8. */
    static void p9LegsThatAreNotThere() {
        SightReducer none = new SightReducer();
        Checks.missing("leg 0 of none", () -> none.leg(0, 0));
        SightReducer one = Checks.loaded("leg 0 21599 400;");
        Checks.due("time", one.leg(0, 0), 0);
        Checks.due("course", one.leg(0, 1), 21599);
        Checks.due("speed", one.leg(0, 2), 400);
        for (int leg : new int[] {-1, 1, Integer.MIN_VALUE, Integer.MAX_VALUE}) {
            Checks.missing("leg " + leg, () -> one.leg(leg, 0));
        }
        for (int what : new int[] {-1, 3, Integer.MIN_VALUE, Integer.MAX_VALUE}) {
            Checks.missing("property " + what, () -> one.leg(0, what));
        }
        SightReducer all = eightLegs();
        Checks.due("the last leg", all.leg(7, 0), 5000);
        Checks.missing("leg 8", () -> all.leg(8, 0));
    }

    private static SightReducer eightLegs() {
        SightReducer x = new SightReducer();
        for (int leg = 0; leg < 8; leg++) {
            Checks.due("the number of the leg", x.steer(leg == 7 ? 5000 : leg, leg, leg), leg);
        }
        return x;
    }

    /** Promise 27: "(0 to 5000)", "0 to 21599", "0 to 400": both ends are taken. */
    static void p27TheEndsOfTheRangesAreTaken() {
        SightReducer x = new SightReducer();
        Checks.due("all least", x.steer(0, 0, 0), 0);
        Checks.due("all greatest", x.steer(5000, 21599, 400), 1);
        Checks.due("time", x.leg(1, 0), 5000);
        Checks.due("course", x.leg(1, 1), 21599);
        Checks.due("speed", x.leg(1, 2), 400);
    }

    /** Promise 27: "-3 if the time is not greater than that of the last leg". */
    static void p27TheTimeMustBeGreater() {
        SightReducer x = new SightReducer();
        Checks.due("the first leg may be at 0", x.steer(0, 1, 2), 0);
        Checks.due("the same time", x.steer(0, 1, 2), -3);
        Checks.due("a minute later", x.steer(1, 1, 2), 1);
        Checks.due("earlier", x.steer(0, 1, 2), -3);
        Checks.due("the end", x.steer(5000, 1, 2), 2);
        Checks.due("nothing is later", x.steer(5000, 1, 2), -3);
        Checks.due("legs", x.told(1), 3);
        Checks.due("only what went well is recorded", x.undoCount(), 3);
        x.undo();
        Checks.due("after undoing the last leg counts", x.steer(2, 1, 2), 2);
    }

    /** Promise 27: "-2 if there are 8 legs; -3 if the time is not greater ... (checked in this order)". */
    static void p27EightLegsAreCheckedBeforeTheTime() {
        SightReducer x = eightLegs();
        Checks.due("8 legs and the same time", x.steer(5000, 0, 0), -2);
        Checks.due("8 legs and an earlier time", x.steer(0, 0, 0), -2);
        x.undo();
        Checks.due("7 legs and the same time", x.steer(6, 0, 0), -3);
        Checks.due("7 legs and a later time", x.steer(7, 0, 0), 7);
    }

    /** Operations: "the exceptions are checked before the error codes". */
    static void p27ExceptionsComeBeforeErrorCodes() {
        SightReducer x = eightLegs();
        Checks.illegal("time", () -> x.steer(-1, 0, 0));
        Checks.illegal("course", () -> x.steer(0, 21600, 0));
        Checks.illegal("speed", () -> x.steer(0, 0, 401));
        x.undo();
        Checks.illegal("speed, and the time is not greater", () -> x.steer(0, 0, -1));
    }

    /** Promise 28: "Throws ... if set is not 0 to 21599 or drift is not 0 to 100": both ends are taken. */
    static void p28TheEndsOfTheRangesAreTaken() {
        SightReducer x = new SightReducer();
        Checks.due("no drift before", x.setCurrent(0, 0), 0);
        Checks.due("none again", x.setCurrent(21599, 100), 0);
        Checks.due("set", x.told(7), 21599);
        Checks.due("drift", x.told(8), 100);
        Checks.due("100 before", x.setCurrent(0, 0), 100);
        Checks.due("set", x.told(7), 0);
        Checks.due("drift", x.told(8), 0);
    }
}
