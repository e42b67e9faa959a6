/**
 * A method for each promise of the document: ordinary inputs, the edges it names and wrong inputs.
 *
 * Most texts use a plain sea: at the start 0 0 and the time 0 the bodies north, east, south and west
 * stand 1800 high in just these directions, and a sextant altitude of 1801 gives the intercept 0
 * (the refraction there is 1), so that the lines of position are parallels and meridians.
 */
public final class PromiseTest {
    private static final int NONE = SightReducer.NONE;
    private static final int HIDDEN = SightReducer.HIDDEN;
    private static final int LEAST = Integer.MIN_VALUE;
    private static final int MOST = Integer.MAX_VALUE;
    private static final String SEA = "body north 3600 0;body east 0 18000;body south -3600 0;body west 0 3600;";
    /** The lines north = 500, east = 300 and, at a slant, that of the body mid. */
    private static final String HAT = SEA + "body mid 1800 18000;"
            + "sight north 0 1806;sight east 0 1804;sight mid 0 1600;";

    public static void main(String[] args) {
        constants();
        newObject();
        feed();
        load();
        loadErrors();
        loadErrorPrecedence();
        errorPosition();
        sine();
        arc();
        told();
        body();
        leg();
        displacement();
        reckoned();
        sight();
        sightsAtTheEdges();
        carried();
        crossing();
        hat();
        smallestHat();
        isInside();
        fix();
        residualAndWorst();
        offCourseAndUnknownCurrent();
        means();
        observe();
        drop();
        steer();
        setCurrent();
        correct();
        format();
        undo();
        snapshot();
        query();
        queryErrors();
        queryLength();
        Checks.finish("PromiseTest");
    }

    private static void refusedText(String text, int code, int position) {
        SightReducer x = Checks.loaded("start 7 8;eye 9;index -3;current 4 5;body a 1 2;leg 3 4 5;sight a 6 700;");
        x.setCurrent(10, 11);
        x.saveSnapshot();
        String before = Checks.everything(x);
        Checks.due("promise 3: " + text, Checks.load(x, text), -10 - code);
        Checks.due("promise 4: " + text, x.errorPosition(), position);
        Checks.due("promise 3: no change by " + text, Checks.everything(x), before);
        Checks.due("promise 3: the history stays after " + text, x.undoCount(), 1);
        Checks.due("promise 3: the snapshot stays after " + text, x.restoreSnapshot(), true);
        Checks.due("promise 3: the buffer is empty after " + text, x.feed(0, 0, 0, 0, 0), 20);
    }

    private static void constants() {
        Checks.due("the constant NONE", NONE, -1);
        Checks.due("the constant HIDDEN", HIDDEN, -1000000000);
    }

    private static void newObject() {
        SightReducer x = new SightReducer();
        for (int what = 0; what <= 8; what++) {
            Checks.due("promise 1: told " + what, x.told(what), 0);
        }
        Checks.due("promise 1: undoCount", x.undoCount(), 0);
        Checks.due("promise 1: undo", x.undo(), NONE);
        Checks.due("promise 1: restoreSnapshot", x.restoreSnapshot(), false);
        Checks.due("promise 1: errorPosition", x.errorPosition(), NONE);
        Checks.due("promise 1: formattedByte", x.formattedByte(0), NONE);
        Checks.due("promise 1: displacement", x.displacement(5000, false), 0);
        Checks.due("promise 1: fix", x.fix(0, true), HIDDEN);
        Checks.due("promise 1: feed", x.feed(0, 0, 0, 0, 0), 20);
        Checks.missing("promise 1: body", () -> x.body(0, 0));
        SightReducer other = new SightReducer();
        other.setCurrent(1, 2);
        Checks.due("promise 1: objects share nothing", x.told(8), 0);
    }

    private static void feed() {
        SightReducer x = new SightReducer();
        Checks.due("promise 2: first bytes", x.feed(0x65796520, 0x35303b20, LEAST, -1, MOST), 20);
        Checks.due("promise 2: the most significant byte comes first", x.load(7), 0);
        Checks.due("promise 2: all four bytes are read", x.told(5), 50);
        x.feed(0x20202020, 0x20202020, 0x20202020, 0x20202020, 0x20202020 - 0x20 + 0xff);
        Checks.due("promise 2: a byte above 127", x.load(20), -11);
        Checks.due("promise 2: the last byte", x.errorPosition(), 19);
        for (int i = 1; i <= 35; i++) {
            Checks.due("promise 2: bytes in the buffer", x.feed(0x20202020, 0x20202020, 0x20202020, 0x0a0a0a0a,
                    i == 35 ? 0x2020203b : 0x20202020), 20 * i);
        }
        Checks.due("promise 2: more than 700", x.feed(0x3b3b3b3b, 0, 0, 0, 0), NONE);
        Checks.due("promise 2: more than 700 again", x.feed(0x3b3b3b3b, 0, 0, 0, 0), NONE);
        Checks.illegal("promise 2: nothing was appended", () -> x.load(701));
        Checks.due("promise 2: the bytes before stay", x.load(700), -11);
        Checks.due("promise 2: the last of 700", x.errorPosition(), 699);
        Checks.due("promise 2: after that", x.feed(0, 0, 0, 0, 0), 20);
    }

    private static void load() {
        SightReducer x = new SightReducer();
        Checks.illegal("promise 3: below 0", () -> x.load(-1));
        Checks.illegal("promise 3: far below 0", () -> x.load(LEAST));
        Checks.illegal("promise 3: more than there is", () -> x.load(1));
        Checks.due("promise 3: an empty text", x.load(0), 0);
        String text = "start -3600-10799;eye 50;index - 60;current 21599 100;body\nabcdefgh -3600 21599;"
                + "body start 3600 0;leg 0 0 0;leg 0005000 21599 400;sight abcdefgh 0 300;sight start 5000 5100;";
        Checks.due("promise 3: sights", Checks.load(x, text), 2);
        Checks.due("promise 3: everything told", Checks.everything(x).startsWith("2 2 2 -3600 -10799 50 -60 21599 100 "),
                true);
        Checks.due("promise 3: leading zeros", x.leg(1, 0), 5000);
        Checks.due("promise 3: a keyword as a name", x.sight(1, 0), 1);
        Checks.feed(x, "eye 7;eye 8;");
        x.correct(1, 1);
        x.saveSnapshot();
        Checks.due("promise 3: only the first bytes", x.load(6), 0);
        Checks.due("promise 3: the text replaces everything", Checks.everything(x).startsWith("0 0 0 0 0 7 0 0 0 "), true);
        Checks.due("promise 3: the history is discarded", x.undoCount(), 0);
        Checks.due("promise 3: the snapshot is discarded", x.restoreSnapshot(), false);
        Checks.due("promise 3: the buffer is empty", x.feed(0, 0, 0, 0, 0), 20);
        Checks.illegal("promise 3: more than 20", () -> x.load(21));
        Checks.due("promise 3: a refused length leaves the buffer", x.feed(0, 0, 0, 0, 0), 40);
        x.load(0);
        Checks.due("promise 3: the last of a repeated clause counts",
                Checks.load(x, "start 1 2;eye 1;index 1;current 1 1;start -3 4;eye 2;index -2;current 2 3;"), 0);
        Checks.due("promise 3: repeated", Checks.everything(x).startsWith("0 0 0 -3 4 2 -2 2 3 "), true);
        Checks.due("promise 3: blanks alone", Checks.load(x, " \n  "), 0);
        Checks.due("promise 3: minus 0", Checks.load(x, "start -0 -0;index -0;"), 0);
        StringBuilder full = new StringBuilder("body a 0 0;body b 0 0;body c 0 0;body d 0 0;body e 0 0;body f 0 0;");
        for (int i = 0; i < 8; i++) {
            full.append("leg ").append(i).append(" 0 0;");
        }
        for (int i = 0; i < 12; i++) {
            full.append("sight f 0 300;");
        }
        Checks.due("promise 3: 12 sights, 8 legs and 6 bodies", Checks.load(x, full.toString()), 12);
        Checks.due("promise 3: 6 bodies", x.told(0), 6);
        Checks.due("promise 3: 8 legs", x.told(1), 8);
        refusedText(full + " sight f 0 300;", 3, full.length() + 1);
        refusedText(full + "leg 9 0 0;", 3, full.length());
        refusedText(full + "body g 0 0;", 3, full.length());
        refusedText(full + "body", 3, full.length());
    }

    private static void loadErrors() {
        refusedText("x", 1, 0);
        refusedText(" 5", 1, 1);
        refusedText("\t", 1, 0);
        refusedText("Start 0 0;", 1, 0);
        refusedText("starts 0 0;", 1, 0);
        refusedText("star 0 0;", 1, 0);
        refusedText("eye 0;;", 1, 6);
        refusedText("eye", 1, 3);
        refusedText("eye 5  ", 1, 7);
        refusedText("eye -5;", 1, 4);
        refusedText("eye 51;", 2, 4);
        refusedText("eye 99999999999999999999;", 2, 4);
        refusedText("eye 4294967296;", 2, 4);
        refusedText("eye 5 5;", 1, 6);
        refusedText("eye 5\r;", 1, 5);
        refusedText("index --5;", 1, 7);
        refusedText("index 61;", 2, 6);
        refusedText("index -61;", 2, 7);
        refusedText("start 3601 0;", 2, 6);
        refusedText("start -3601 0;", 2, 7);
        refusedText("start 0 10800;", 2, 8);
        refusedText("start 0 -10800;", 2, 9);
        refusedText("start 0;", 1, 7);
        refusedText("current 21600 0;", 2, 8);
        refusedText("current 0 101;", 2, 10);
        refusedText("current -1 0;", 1, 8);
        refusedText("body 5 0 0;", 1, 5);
        refusedText("body ; 0 0;", 1, 5);
        refusedText("body abcdefghi 0 0;", 1, 5);
        refusedText("body a 0 0;body a 0 0;", 4, 16);
        refusedText("body a 3601 0;", 2, 7);
        refusedText("body a -3601 0;", 2, 8);
        refusedText("body a 0 21600;", 2, 9);
        refusedText("body a 0 -1;", 1, 9);
        refusedText("leg 5001 0 0;", 2, 4);
        refusedText("leg 0 21600 0;", 2, 6);
        refusedText("leg 0 0 401;", 2, 8);
        refusedText("leg 7 0 0;leg 7 0 0;", 5, 14);
        refusedText("leg 7 0 0;leg 6 0 0;", 5, 14);
        refusedText("leg 7 0 0;leg x 0 0;", 1, 14);
        refusedText("sight a 0 300;", 4, 6);
        refusedText("body a 0 0;sight abcdefghi 0 300;", 4, 17);
        refusedText("body a 0 0;sight aa 0 300;", 4, 17);
        refusedText("body ab 0 0;sight a 0 300;", 4, 18);
        refusedText("sight a 0 300;body a 0 0;", 4, 6);
        refusedText("sight 5 0 300;", 1, 6);
        refusedText("sight", 1, 5);
        refusedText("body a 0 0;sight a 5001 300;", 2, 19);
        refusedText("body a 0 0;sight a 0 299;", 2, 21);
        refusedText("body a 0 0;sight a 0 5101;", 2, 21);
        refusedText("body a 0 0;sight a 0 -300;", 1, 21);
        refusedText("body A 0 0;", 1, 5);
    }

    private static void loadErrorPrecedence() {
        refusedText("leg 5000 0 0;leg 5001 0 0;", 2, 17);
        refusedText("eye 51 ?;", 2, 4);
        refusedText("leg 5 0 0;leg 3 99999 0;", 5, 14);
        refusedText("eye 51;body a 0 0;body a 0 0;", 2, 4);
    }

    private static void errorPosition() {
        SightReducer x = new SightReducer();
        Checks.load(x, "eye 51;");
        Checks.illegal("promise 4: a refused length", () -> x.load(99));
        Checks.illegal("promise 4: a refused length", () -> x.query(99));
        Checks.due("promise 4: such a call did not read", x.errorPosition(), 4);
        x.feed(0, 0, 0, 0, 0);
        x.correct(1, 1);
        x.undo();
        Checks.due("promise 4: other calls leave it", x.errorPosition(), 4);
        x.load(0);
        Checks.due("promise 4: a right text", x.errorPosition(), NONE);
        Checks.query(x, "many sight");
        Checks.due("promise 4: a wrong query", x.errorPosition(), 10);
        Checks.query(x, "many 1=1");
        Checks.due("promise 4: a right query", x.errorPosition(), NONE);
    }

    private static void sine() {
        SightReducer x = new SightReducer();
        int[][] due = {{0, 0}, {1, 296}, {600, 175257}, {1800, 500000}, {2700, 705882}, {3600, 864864}, {5399, 999999},
            {5400, 1000000}, {7200, 864864}, {10799, 296}, {10800, 0}, {10801, -296}, {12600, -500000},
            {16200, -1000000}, {21599, -296}, {21600, 0}, {21601, 296}, {-1, -296}, {-600, -175257}, {-10800, 0},
            {-10801, 296}, {-21600, 0}, {-16200, 1000000}};
        for (int[] pair : due) {
            Checks.due("promise 5: sine of " + pair[0], x.sine(pair[0]), pair[1]);
        }
        Checks.due("promise 5: the greatest angle", x.sine(MOST), x.sine(Math.floorMod(MOST, 21600)));
        Checks.due("promise 5: the least angle", x.sine(LEAST), x.sine(Math.floorMod(LEAST, 21600)));
        Checks.due("promise 5: they differ from 0", x.sine(MOST) != 0 && x.sine(LEAST) != 0, true);
    }

    private static void arc() {
        SightReducer x = new SightReducer();
        int[][] due = {{0, 0}, {295, 0}, {296, 1}, {499999, 1799}, {500000, 1800}, {999999, 5399}, {1000000, 5400},
            {-1, 0}, {-296, -1}, {-499999, -1799}, {-500000, -1800}, {-1000000, -5400}};
        for (int[] pair : due) {
            Checks.due("promise 6: arc of " + pair[0], x.arc(pair[0]), pair[1]);
        }
        for (int angle = 0; angle < 5400; angle++) {
            Checks.due("promise 6: arc of a sine", x.sine(x.arc(x.sine(angle))), x.sine(angle));
            Checks.due("promise 6: the greatest angle", x.sine(x.arc(x.sine(angle)) + 1) > x.sine(angle)
                    || x.sine(angle) == 1000000, true);
        }
        Checks.illegal("promise 6: too great", () -> x.arc(1000001));
        Checks.illegal("promise 6: too small", () -> x.arc(-1000001));
        Checks.illegal("promise 6: the least", () -> x.arc(LEAST));
    }

    private static void told() {
        SightReducer x = Checks.loaded("start 11 -12;eye 13;index -14;current 15 16;" + SEA + "leg 0 0 0;leg 1 0 0;"
                + "sight east 0 400;sight east 0 400;sight east 0 400;");
        int[] due = {4, 2, 3, 11, -12, 13, -14, 15, 16};
        for (int what = 0; what < due.length; what++) {
            Checks.due("promise 7: told " + what, x.told(what), due[what]);
        }
        Checks.missing("promise 7: -1", () -> x.told(-1));
        Checks.missing("promise 7: 9", () -> x.told(9));
    }

    private static void body() {
        SightReducer x = Checks.loaded(SEA + "sight west 0 400;sight east 0 400;sight west 1 500;");
        int[][] due = {{3600, 0, 5, 0}, {0, 18000, 4, 1}, {-3600, 0, 5, 0}, {0, 3600, 4, 2}};
        for (int body = 0; body < 4; body++) {
            for (int what = 0; what < 4; what++) {
                Checks.due("promise 8: body " + body + " " + what, x.body(body, what), due[body][what]);
            }
        }
        x.drop(0);
        Checks.due("promise 8: sights that are left", x.body(3, 3), 1);
        Checks.missing("promise 8: body -1", () -> x.body(-1, 0));
        Checks.missing("promise 8: body 4", () -> x.body(4, 0));
        Checks.missing("promise 8: property -1", () -> x.body(0, -1));
        Checks.missing("promise 8: property 4", () -> x.body(0, 4));
    }

    private static void leg() {
        SightReducer x = Checks.loaded("leg 3 4 5;leg 5000 21599 400;");
        Checks.due("promise 9: time", x.leg(0, 0), 3);
        Checks.due("promise 9: course", x.leg(0, 1), 4);
        Checks.due("promise 9: speed", x.leg(0, 2), 5);
        Checks.due("promise 9: second leg", x.leg(1, 1), 21599);
        Checks.missing("promise 9: leg -1", () -> x.leg(-1, 0));
        Checks.missing("promise 9: leg 2", () -> x.leg(2, 0));
        Checks.missing("promise 9: property -1", () -> x.leg(0, -1));
        Checks.missing("promise 9: property 3", () -> x.leg(0, 3));
    }

    private static void displacement() {
        SightReducer x = Checks.loaded("leg 10 5400 60;leg 70 0 120;leg 100 16200 60;");
        int[][] due = {{0, 0, 0}, {10, 0, 0}, {11, 10, 0}, {70, 600, 0}, {71, 600, 20}, {100, 600, 600},
            {160, 0, 600}, {5000, -48400, 600}};
        for (int[] row : due) {
            Checks.due("promise 10: east at " + row[0], x.displacement(row[0], false), row[1]);
            Checks.due("promise 10: north at " + row[0], x.displacement(row[0], true), row[2]);
        }
        x.setCurrent(0, 6);
        Checks.due("promise 10: the current runs from 0 on", x.displacement(10, true), 10);
        Checks.due("promise 10: and besides", x.displacement(100, true), 700);
        Checks.illegal("promise 10: time -1", () -> x.displacement(-1, true));
        Checks.illegal("promise 10: time 5001", () -> x.displacement(5001, false));
        SightReducer y = Checks.loaded("leg 0 12600 7;");
        Checks.due("promise 10: 7 * 1 / 6 is 1, half of it west rounded down", y.displacement(1, false), -1);
        Checks.due("promise 10: south rounded down", y.displacement(1, true), -1);
        Checks.due("promise 10: a way rounded down", y.displacement(5, false), -3);
        SightReducer z = Checks.loaded("current 12600 1;leg 0 12600 7;leg 1 12600 7;leg 2 12600 7;");
        Checks.due("promise 10: each part is rounded", z.displacement(6, false), -1 - 1 - 2 - 1);
        SightReducer far = Checks.loaded("current 0 100;leg 0 0 400;");
        Checks.due("promise 10: the farthest", far.displacement(5000, true), 333333 + 83333);
    }

    private static void reckoned() {
        SightReducer x = Checks.loaded("start 100 200;leg 0 5400 60;leg 60 10800 60;");
        Checks.due("promise 11: latitude at first", x.reckoned(0, false), 100);
        Checks.due("promise 11: longitude at first", x.reckoned(0, true), 200);
        Checks.due("promise 11: latitude", x.reckoned(120, false), 94);
        Checks.due("promise 11: latitude rounded down", x.reckoned(61, false), 99);
        Checks.due("promise 11: longitude", x.reckoned(60, true), 206);
        Checks.due("promise 11: at latitude 60", Checks.loaded("start -3600 0;leg 0 5400 60;").reckoned(60, true), 12);
        Checks.due("promise 11: rounded down", Checks.loaded("leg 0 16200 60;").reckoned(1, true), -1);
        Checks.due("promise 11: past the east end", Checks.loaded("start 0 10799;leg 0 5400 60;").reckoned(10, true), -10800);
        Checks.due("promise 11: the west end", Checks.loaded("start 0 -10799;leg 0 16200 60;").reckoned(10, true), -10800);
        Checks.due("promise 11: past it", Checks.loaded("start 0 -10799;leg 0 16200 60;").reckoned(11, true), 10799);
        Checks.due("promise 11: past the pole", Checks.loaded("start 3600 0;leg 0 0 400;").reckoned(5000, false), 3600 + 3333);
        Checks.illegal("promise 11: time -1", () -> x.reckoned(-1, true));
        Checks.illegal("promise 11: time 5001", () -> x.reckoned(5001, false));
    }

    private static void sight() {
        SightReducer x = Checks.loaded(SEA + "eye 12;index 5;"
                + "sight north 0 1806;sight east 0 1802;sight south 0 1702;sight west 0 1803;");
        int[][] due = {{0, 0, 1806, 1805, 1804, 1800, 0, 4, 400}, {1, 0, 1802, 1801, 1800, 1800, 5400, 0, 0},
            {2, 0, 1702, 1701, 1700, 1800, 10800, -100, -10000}, {3, 0, 1803, 1802, 1801, 1800, 16200, 1, 100}};
        for (int sight = 0; sight < 4; sight++) {
            for (int what = 0; what <= 8; what++) {
                Checks.due("promise 12: sight " + sight + " " + what, x.sight(sight, what), due[sight][what]);
            }
        }
        Checks.missing("promise 12: sight -1", () -> x.sight(-1, 0));
        Checks.missing("promise 12: sight 4", () -> x.sight(4, 0));
        Checks.missing("promise 12: property -1", () -> x.sight(0, -1));
        Checks.missing("promise 12: property 9", () -> x.sight(0, 9));
        Checks.missing("promise 12: no sights", () -> new SightReducer().sight(0, 0));
    }

    private static void sightsAtTheEdges() {
        SightReducer low = Checks.loaded("eye 50;index -60;body a 0 0;sight a 0 300;");
        Checks.due("promise 12: the dip of 50 is 12", low.sight(0, 3), 228);
        Checks.due("promise 12: refraction at 228", low.sight(0, 4), 228 - low.sine(5628) / low.sine(228));
        SightReducer high = Checks.loaded("index 60;body a 0 0;sight a 0 5100;");
        Checks.due("promise 12: no refraction on high", high.sight(0, 4), 5160);
        Checks.due("promise 12: overhead", high.sight(0, 5), 5400);
        Checks.due("promise 12: overhead the azimuth is 0", high.sight(0, 6), 0);
        SightReducer turned = Checks.loaded("body a 0 3600;sight a 240 1801;");
        Checks.due("promise 12: 240 minutes later the hour angle is 7200", turned.sight(0, 5), -1800);
        Checks.due("promise 12: below the horizon in the west", turned.sight(0, 6), 16200);
        Checks.due("promise 12: intercept to a body below the horizon", turned.sight(0, 7), 3600);
        SightReducer moved = Checks.loaded("leg 0 0 60;current 5400 60;body north 3600 0;sight north 60 1801;");
        Checks.due("promise 12: the reckoned latitude counts", moved.reckoned(60, false), 6);
        Checks.due("promise 12: offset from the start", moved.sight(0, 8) - 100 * moved.sight(0, 7),
                Math.floorDiv(600 * moved.sine(moved.sight(0, 6)) + 600 * moved.sine(moved.sight(0, 6) + 5400), 1000000));
        SightReducer astride = Checks.loaded("start 0 10799;leg 0 5400 60;body e 0 7201;sight e 0 1801;sight e 60 2000;");
        Checks.due("promise 12: over the date line", astride.reckoned(60, true), -10795);
        Checks.due("promise 12: azimuth east", astride.sight(1, 6), 5400);
        Checks.due("promise 12: the difference of longitudes is small",
                astride.sight(1, 8) - 100 * astride.sight(1, 7), 600);
        SightReducer pole = Checks.loaded("start 3600 0;leg 0 0 400;body a 1200 5000;sight a 5000 1801;");
        Checks.due("promise 12: beyond the pole the divisor is below 0, so z is 0", pole.sight(0, 6), 0);
    }

    private static void carried() {
        SightReducer x = Checks.loaded(SEA + "leg 0 5400 60;sight north 0 1806;sight east 0 1804;sight west 0 1803;");
        Checks.due("promise 13: at its own time", x.carried(1, 0), 300);
        Checks.due("promise 13: along with the ship", x.carried(1, 60), 900);
        Checks.due("promise 13: against it", x.carried(2, 60), -400);
        Checks.due("promise 13: across", x.carried(0, 60), 500);
        int later = x.observe(3, 60, 1803);
        Checks.due("promise 13: back to an earlier time", x.carried(later, 0) - x.sight(later, 8), 600);
        Checks.missing("promise 13: no such sight, checked first", () -> x.carried(4, -1));
        Checks.missing("promise 13: sight -1", () -> x.carried(-1, 5001));
        Checks.illegal("promise 13: time -1", () -> x.carried(0, -1));
        Checks.illegal("promise 13: time 5001", () -> x.carried(0, 5001));
    }

    private static void crossing() {
        SightReducer x = Checks.loaded(HAT + "sight north 0 1810;sight south 0 1801;leg 0 5400 60;");
        Checks.due("promise 14: east", x.crossing(0, 1, 0, false), 300);
        Checks.due("promise 14: north", x.crossing(0, 1, 0, true), 500);
        Checks.due("promise 14: the other order", x.crossing(1, 0, 0, false), 300);
        Checks.due("promise 14: later", x.crossing(0, 1, 60, false), 900);
        Checks.due("promise 14: the same sight", x.crossing(1, 1, 0, true), HIDDEN);
        Checks.due("promise 14: parallel lines", x.crossing(0, 3, 0, false), HIDDEN);
        Checks.due("promise 14: opposite lines", x.crossing(0, 4, 0, false), HIDDEN);
        Checks.due("promise 14: a slanting line", x.crossing(0, 2, 0, true), 500);
        Checks.missing("promise 14: no first sight, checked first", () -> x.crossing(5, 0, -1, true));
        Checks.missing("promise 14: no second sight, checked first", () -> x.crossing(0, -1, -1, true));
        Checks.illegal("promise 14: time -1", () -> x.crossing(0, 1, -1, true));
        Checks.illegal("promise 14: time 5001", () -> x.crossing(0, 1, 5001, true));
        SightReducer far = Checks.loaded(SEA + "body up 3500 21500;sight north 0 300;sight up 0 5100;sight up 0 5000;");
        Checks.due("promise 14: nearly parallel lines", far.crossing(0, 1, 0, true), HIDDEN);
        SightReducer wide = Checks.loaded("body north 3600 0;body low 1800 8000;sight north 0 300;sight low 0 5100;");
        Checks.due("promise 14: limited", wide.crossing(0, 1, 0, false), -1000000);
    }

    private static void hat() {
        SightReducer x = Checks.loaded(HAT + "sight north 0 1801;leg 0 5400 60;");
        int slantEast = x.crossing(0, 2, 0, false);
        int slantNorth = x.crossing(1, 2, 0, true);
        Checks.due("promise 15: a slant to the north-east", x.sight(2, 6) > 1000 && x.sight(2, 6) < 4400, true);
        Checks.due("promise 15: area", x.hat(0, 1, 2, 0, 0),
                (int) (Math.abs((long) (slantEast - 300) * (slantNorth - 500)) / 20000));
        Checks.due("promise 15: the area is not 0", x.hat(0, 1, 2, 0, 0) > 0, true);
        Checks.due("promise 15: in another order", x.hat(2, 0, 1, 0, 0), x.hat(0, 1, 2, 0, 0));
        Checks.due("promise 15: middle east", x.hat(0, 1, 2, 0, 1), Math.floorDiv(300 + slantEast + 300, 3));
        Checks.due("promise 15: middle north", x.hat(0, 1, 2, 0, 2), Math.floorDiv(500 + 500 + slantNorth, 3));
        Checks.due("promise 15: along with the ship", x.hat(0, 1, 2, 60, 1), Math.floorDiv(
                900 + x.crossing(0, 2, 60, false) + x.crossing(1, 2, 60, false), 3));
        Checks.due("promise 15: a sight twice", x.hat(0, 1, 1, 0, 0), HIDDEN);
        Checks.due("promise 15: parallels as first and third", x.hat(0, 1, 3, 0, 0), HIDDEN);
        Checks.due("promise 15: parallels as first and second", x.hat(0, 3, 1, 0, 1), HIDDEN);
        Checks.due("promise 15: parallels as second and third", x.hat(1, 0, 3, 0, 2), HIDDEN);
        Checks.missing("promise 15: no first sight", () -> x.hat(4, 1, 2, -1, 9));
        Checks.missing("promise 15: no second sight", () -> x.hat(0, 4, 2, -1, 9));
        Checks.missing("promise 15: no third sight", () -> x.hat(0, 1, -1, -1, 9));
        Checks.illegal("promise 15: time -1", () -> x.hat(0, 1, 2, -1, 0));
        Checks.illegal("promise 15: time 5001", () -> x.hat(0, 1, 2, 5001, 0));
        Checks.illegal("promise 15: property 3", () -> x.hat(0, 1, 2, 0, 3));
        Checks.illegal("promise 15: property -1", () -> x.hat(0, 1, 1, 0, -1));
    }

    private static void smallestHat() {
        SightReducer x = Checks.loaded(HAT + "sight west 0 1900;sight south 0 1900;");
        int least = Integer.MAX_VALUE;
        int found = NONE;
        for (int one = 4; one >= 0; one--) {
            for (int two = 4; two > one; two--) {
                for (int three = 4; three > two; three--) {
                    int area = x.hat(one, two, three, 0, 0);
                    if (area != HIDDEN && area <= least) {
                        least = area;
                        found = 10000 * one + 100 * two + three;
                    }
                }
            }
        }
        Checks.due("promise 16: the smallest", x.smallestHat(0), found);
        Checks.due("promise 16: the nearest lines", found, 102);
        x.drop(0);
        Checks.due("promise 16: without the first", x.smallestHat(0) != NONE, true);
        SightReducer twice = Checks.loaded(HAT + "sight mid 0 1600;sight north 0 1806;");
        Checks.due("promise 16: the first on a tie", twice.smallestHat(5000), 102);
        Checks.due("promise 16: no three lines", Checks.loaded(SEA + "sight north 0 1806;sight east 0 1804;").smallestHat(0), NONE);
        Checks.due("promise 16: no hat", Checks.loaded(SEA + "sight north 0 1806;sight east 0 1804;sight south 0 1804;")
                .smallestHat(0), NONE);
        Checks.illegal("promise 16: time -1", () -> x.smallestHat(-1));
        Checks.illegal("promise 16: time 5001", () -> x.smallestHat(5001));
    }

    private static void isInside() {
        SightReducer x = Checks.loaded(HAT + "leg 0 5400 60;sight north 0 1801;");
        int middleEast = x.hat(0, 1, 2, 0, 1);
        int middleNorth = x.hat(0, 1, 2, 0, 2);
        int slantNorth = x.crossing(1, 2, 0, true);
        Checks.due("promise 17: the middle", x.isInside(0, 1, 2, 0, middleEast, middleNorth), true);
        Checks.due("promise 17: in another order", x.isInside(2, 1, 0, 0, middleEast, middleNorth), true);
        Checks.due("promise 17: a corner", x.isInside(0, 1, 2, 0, 300, 500), true);
        Checks.due("promise 17: another corner", x.isInside(0, 1, 2, 0, 300, slantNorth), true);
        Checks.due("promise 17: on the border", x.isInside(0, 1, 2, 0, 300, (500 + slantNorth) / 2), true);
        Checks.due("promise 17: beside the border", x.isInside(0, 1, 2, 0, 299, (500 + slantNorth) / 2), false);
        Checks.due("promise 17: on the border's line, outside", x.isInside(0, 1, 2, 0, 300, 499), false);
        Checks.due("promise 17: beyond the slant", x.isInside(0, 1, 2, 0, 400, slantNorth - 1), false);
        Checks.due("promise 17: the ends of the range", x.isInside(0, 1, 2, 0, -1000000, 1000000), false);
        Checks.due("promise 17: the other ends", x.isInside(0, 1, 2, 0, 1000000, -1000000), false);
        Checks.due("promise 17: along with the ship", x.isInside(0, 1, 2, 60, 900, 500), true);
        Checks.due("promise 17: and no more there", x.isInside(0, 1, 2, 60, 300, 500), false);
        Checks.due("promise 17: no hat", x.isInside(0, 1, 3, 0, 300, 500), false);
        SightReducer point = Checks.loaded(SEA + "body mid 1800 18000;sight north 0 1801;sight east 0 1801;sight mid 0 1537;");
        Checks.due("promise 15: three lines through one place", point.hat(0, 1, 2, 0, 0), 0);
        Checks.due("promise 16: that is a hat", point.smallestHat(0), 102);
        Checks.due("promise 17: all cross products are 0 there", point.isInside(0, 1, 2, 0, 70, -9), true);
        Checks.missing("promise 17: no first sight", () -> x.isInside(4, 1, 2, -1, 0, 0));
        Checks.missing("promise 17: no second sight", () -> x.isInside(0, -1, 2, 0, LEAST, 0));
        Checks.missing("promise 17: no third sight", () -> x.isInside(0, 1, 4, 0, 0, MOST));
        Checks.illegal("promise 17: time -1", () -> x.isInside(0, 1, 2, -1, 0, 0));
        Checks.illegal("promise 17: time 5001", () -> x.isInside(0, 1, 2, 5001, 0, 0));
        Checks.illegal("promise 17: east too small", () -> x.isInside(0, 1, 2, 0, -1000001, 0));
        Checks.illegal("promise 17: east too great", () -> x.isInside(0, 1, 2, 0, 1000001, 0));
        Checks.illegal("promise 17: north too small", () -> x.isInside(0, 1, 1, 0, 0, -1000001));
        Checks.illegal("promise 17: north too great", () -> x.isInside(0, 1, 2, 0, 0, 1000001));
    }

    /** The lines north = 500, east = 300 and east = -100: the fix lies between the last two. */
    private static SightReducer between() {
        return Checks.loaded(SEA + "sight north 0 1806;sight east 0 1804;sight west 0 1802;");
    }

    private static void fix() {
        SightReducer x = between();
        Checks.due("promise 18: east", x.fix(0, false), 100);
        Checks.due("promise 18: north", x.fix(0, true), 500);
        x.steer(0, 5400, 60);
        Checks.due("promise 18: along with the ship", x.fix(60, false), 700);
        Checks.due("promise 18: not across", x.fix(60, true), 500);
        x.drop(0);
        Checks.due("promise 18: lines that do not cross", x.fix(0, true), HIDDEN);
        x.drop(0);
        Checks.due("promise 18: one line", x.fix(0, false), HIDDEN);
        Checks.illegal("promise 18: time -1", () -> x.fix(-1, true));
        Checks.illegal("promise 18: time 5001", () -> x.fix(5001, false));
        SightReducer far = Checks.loaded("body north 3600 0;body low 1800 8000;sight north 0 300;sight low 0 5100;");
        Checks.due("promise 18: limited", far.fix(0, false), -1000000);
        SightReducer down = Checks.loaded(SEA + "sight north 0 1806;sight east 0 1804;sight east 0 1803;sight east 0 1803;");
        Checks.due("promise 18: rounded down", down.fix(0, false), 233);
        SightReducer west = Checks.loaded(SEA + "sight north 0 1806;sight west 0 1804;sight west 0 1803;sight west 0 1803;");
        Checks.due("promise 18: rounded down in the west", west.fix(0, false), -234);
    }

    private static void residualAndWorst() {
        SightReducer x = between();
        Checks.due("promise 19: on the line", x.residual(0, 0), 0);
        Checks.due("promise 19: short of the line", x.residual(1, 0), -200);
        Checks.due("promise 19: short of the other", x.residual(2, 0), -200);
        Checks.due("promise 19: the time moves both", x.residual(2, 5000), -200);
        Checks.due("promise 20: the first on a tie", x.worst(0), 1);
        x.observe(0, 0, 1901);
        Checks.due("promise 19: beyond", x.residual(0, 0), 4750);
        Checks.due("promise 19: short", x.residual(3, 0), -4750);
        Checks.due("promise 20: now the first sight", x.worst(5000), 0);
        x.observe(0, 0, 1901);
        Checks.due("promise 20: the absolute value counts", x.worst(0), 0);
        Checks.missing("promise 19: no such sight, checked first", () -> x.residual(5, -1));
        Checks.missing("promise 19: sight -1", () -> x.residual(-1, 5001));
        Checks.illegal("promise 19: time -1", () -> x.residual(0, -1));
        Checks.illegal("promise 19: time 5001", () -> x.residual(0, 5001));
        Checks.illegal("promise 20: time -1", () -> x.worst(-1));
        Checks.illegal("promise 20: time 5001", () -> x.worst(5001));
        SightReducer alone = Checks.loaded(SEA + "sight north 0 1806;");
        Checks.due("promise 19: no fix", alone.residual(0, 0), HIDDEN);
        Checks.due("promise 20: no fix", alone.worst(0), NONE);
        SightReducer good = Checks.loaded(SEA + "sight north 0 1806;sight east 0 1804;");
        Checks.due("promise 20: all residuals 0", good.worst(0), 0);
    }

    private static SightReducer crossingAt(String first, int north, String second, int east) {
        return Checks.loaded(SEA + "sight " + first + " 0 " + (1801 + north) + ";sight " + second + " 0 " + (1801 + east) + ";");
    }

    private static void offCourseAndUnknownCurrent() {
        SightReducer x = between();
        Checks.due("promise 21: the root of 260000", x.offCourse(0), 509);
        Checks.due("promise 22: drift", x.unknownCurrent(60, true), 50);
        Checks.due("promise 22: drift after a minute", x.unknownCurrent(1, true), 3054);
        Checks.due("promise 22: set", x.unknownCurrent(60, false), x.arc(100 * 1000000 / 509));
        x.setCurrent(5400, 60);
        Checks.due("promise 21: the ship is moved, and so are the lines", x.offCourse(60), 509);
        Checks.due("promise 22: south-east", crossingAt("south", 4, "east", 3).unknownCurrent(9, false),
                10800 - x.arc(600000));
        Checks.due("promise 22: south-west", crossingAt("south", 4, "west", 3).unknownCurrent(9, false),
                10800 + x.arc(600000));
        Checks.due("promise 22: north-west", crossingAt("north", 4, "west", 3).unknownCurrent(9, false),
                21600 - x.arc(600000));
        Checks.due("promise 22: north-east", crossingAt("north", 4, "east", 3).unknownCurrent(9, false), x.arc(600000));
        Checks.due("promise 22: east", crossingAt("north", 0, "east", 3).unknownCurrent(9, false), 5400);
        Checks.due("promise 22: west", crossingAt("north", 0, "west", 3).unknownCurrent(9, false), 16200);
        Checks.due("promise 22: south", crossingAt("south", 3, "west", 0).unknownCurrent(9, false), 10800);
        Checks.due("promise 22: 0 instead of 21600", 
                Checks.loaded(SEA + "body under 3600 10800;sight under 0 3000;sight west 0 1802;").unknownCurrent(9, false), 0);
        SightReducer here = crossingAt("north", 0, "east", 0);
        Checks.due("promise 21: no distance", here.offCourse(7), 0);
        Checks.due("promise 22: no drift", here.unknownCurrent(7, true), 0);
        Checks.due("promise 22: no set", here.unknownCurrent(7, false), 0);
        SightReducer near = Checks.loaded("body n 3600 21585;body e 0 17985;leg 0 0 6;sight n 1 1801;sight e 1 1801;");
        Checks.due("promise 21: the least distance", near.offCourse(1), 1);
        Checks.due("promise 22: drift of the least distance", near.unknownCurrent(1, true), 6);
        Checks.due("promise 22: set of the least distance", near.unknownCurrent(1, false), 10800);
        SightReducer alone = Checks.loaded(SEA + "sight north 0 1806;");
        Checks.due("promise 21: no fix", alone.offCourse(7), HIDDEN);
        Checks.due("promise 22: no fix, set", alone.unknownCurrent(7, false), HIDDEN);
        Checks.due("promise 22: no fix, drift", alone.unknownCurrent(7, true), HIDDEN);
        Checks.illegal("promise 21: time -1", () -> x.offCourse(-1));
        Checks.illegal("promise 21: time 5001", () -> x.offCourse(5001));
        Checks.illegal("promise 22: time 0", () -> x.unknownCurrent(0, true));
        Checks.illegal("promise 22: time 5001", () -> x.unknownCurrent(5001, false));
        Checks.due("promise 22: time 5000", between().unknownCurrent(5000, true), 0);
    }

    private static void means() {
        SightReducer x = between();
        Checks.due("promise 23: a mean as a double", x.meanResidual(0), 400.0 / 3.0);
        Checks.due("promise 24: a mean as a float", x.meanIntercept(), 9.0f / 3.0f);
        x.observe(2, 0, 1701);
        Checks.due("promise 24: negative intercepts", x.meanIntercept(), -91.0f / 4.0f);
        x.drop(1);
        Checks.due("promise 24: thirds", x.meanIntercept(), -94.0f / 3.0f);
        SightReducer alone = Checks.loaded(SEA + "sight north 0 1806;");
        Checks.due("promise 23: no fix", alone.meanResidual(0), 0.0);
        Checks.due("promise 23: no sights", new SightReducer().meanResidual(0), 0.0);
        Checks.due("promise 24: no sights", new SightReducer().meanIntercept(), 0.0f);
        Checks.due("promise 24: one sight", alone.meanIntercept(), 5.0f);
        Checks.illegal("promise 23: time -1", () -> x.meanResidual(-1));
        Checks.illegal("promise 23: time 5001", () -> x.meanResidual(5001));
    }

    private static void observe() {
        SightReducer x = Checks.loaded(SEA);
        Checks.missing("promise 25: no such body, checked first", () -> x.observe(4, -1, 0));
        Checks.missing("promise 25: body -1", () -> x.observe(-1, 0, 300));
        Checks.illegal("promise 25: time -1", () -> x.observe(0, -1, 300));
        Checks.illegal("promise 25: time 5001", () -> x.observe(0, 5001, 300));
        Checks.illegal("promise 25: altitude 299", () -> x.observe(0, 0, 299));
        Checks.illegal("promise 25: altitude 5101", () -> x.observe(0, 0, 5101));
        Checks.due("promise 25: nothing is recorded", x.undoCount(), 0);
        for (int sight = 0; sight < 12; sight++) {
            Checks.due("promise 25: its number", x.observe(sight % 4, sight == 11 ? 5000 : 0, sight == 11 ? 5100 : 300), sight);
        }
        Checks.due("promise 25: body", x.sight(11, 0), 3);
        Checks.due("promise 25: time", x.sight(11, 1), 5000);
        Checks.due("promise 25: altitude", x.sight(11, 2), 5100);
        String before = Checks.everything(x);
        Checks.due("promise 25: 12 sights", x.observe(0, 0, 300), -2);
        Checks.illegal("promise 25: exceptions come before codes", () -> x.observe(0, 0, 299));
        Checks.missing("promise 25: and the body first", () -> x.observe(4, 0, 299));
        Checks.due("promise 25: a refused call changes nothing", Checks.everything(x), before);
    }

    private static void drop() {
        SightReducer x = Checks.loaded(SEA + "sight north 0 400;sight east 1 500;sight south 2 600;");
        Checks.missing("promise 26: sight 3", () -> x.drop(3));
        Checks.missing("promise 26: sight -1", () -> x.drop(-1));
        Checks.due("promise 26: nothing is recorded", x.undoCount(), 0);
        Checks.due("promise 26: sights left", x.drop(1), 2);
        Checks.due("promise 26: the first stays", x.sight(0, 2), 400);
        Checks.due("promise 26: body of the one behind", x.sight(1, 0), 2);
        Checks.due("promise 26: time of the one behind", x.sight(1, 1), 2);
        Checks.due("promise 26: altitude of the one behind", x.sight(1, 2), 600);
        Checks.due("promise 26: recorded", x.undoCount(), 1);
        x.drop(1);
        Checks.due("promise 26: the last one", x.drop(0), 0);
        Checks.missing("promise 26: none left", () -> x.drop(0));
        x.undo();
        x.undo();
        x.undo();
        Checks.due("promise 26: undone", x.sight(1, 2), 500);
    }

    private static void steer() {
        SightReducer x = new SightReducer();
        Checks.illegal("promise 27: time -1", () -> x.steer(-1, 0, 0));
        Checks.illegal("promise 27: time 5001", () -> x.steer(5001, 0, 0));
        Checks.illegal("promise 27: course -1", () -> x.steer(0, -1, 0));
        Checks.illegal("promise 27: course 21600", () -> x.steer(0, 21600, 0));
        Checks.illegal("promise 27: speed -1", () -> x.steer(0, 0, -1));
        Checks.illegal("promise 27: speed 401", () -> x.steer(0, 0, 401));
        Checks.due("promise 27: a leg at 0", x.steer(0, 21599, 400), 0);
        Checks.due("promise 27: not later", x.steer(0, 0, 0), -3);
        Checks.due("promise 27: recorded once", x.undoCount(), 1);
        for (int leg = 1; leg < 8; leg++) {
            Checks.due("promise 27: its number", x.steer(leg == 7 ? 5000 : leg, leg, leg), leg);
        }
        Checks.due("promise 27: the last leg", x.leg(7, 0) + x.leg(7, 1) + x.leg(7, 2), 5014);
        Checks.due("promise 27: 8 legs, checked first", x.steer(0, 0, 0), -2);
        Checks.illegal("promise 27: exceptions come before codes", () -> x.steer(0, 0, 401));
        Checks.due("promise 27: recorded", x.undoCount(), 8);
        x.undo();
        Checks.due("promise 27: earlier", x.steer(5, 0, 0), -3);
        Checks.due("promise 27: a refused leg is not there", x.told(1), 7);
    }

    private static void setCurrent() {
        SightReducer x = Checks.loaded("current 3 4;");
        Checks.due("promise 28: the drift before", x.setCurrent(21599, 100), 4);
        Checks.due("promise 28: the set", x.told(7), 21599);
        Checks.due("promise 28: the drift", x.told(8), 100);
        Checks.illegal("promise 28: set -1", () -> x.setCurrent(-1, 0));
        Checks.illegal("promise 28: set 21600", () -> x.setCurrent(21600, 0));
        Checks.illegal("promise 28: drift -1", () -> x.setCurrent(0, -1));
        Checks.illegal("promise 28: drift 101", () -> x.setCurrent(0, 101));
        Checks.due("promise 28: unchanged", x.told(7) + x.told(8), 21699);
        Checks.due("promise 28: the same again", x.setCurrent(21599, 100), 100);
        Checks.due("promise 28: is recorded too", x.undoCount(), 2);
        x.setCurrent(0, 0);
        Checks.due("promise 28: 0", x.told(8), 0);
    }

    private static void correct() {
        SightReducer x = new SightReducer();
        int[][] dips = {{0, 0}, {1, 1}, {2, 2}, {3, 3}, {5, 3}, {6, 4}, {12, 6}, {27, 9}, {49, 12}, {50, 12}};
        for (int[] dip : dips) {
            Checks.due("promise 29: dip of " + dip[0], x.correct(dip[0], -60), dip[1]);
        }
        Checks.due("promise 29: the height", x.told(5), 50);
        Checks.due("promise 29: the index error", x.told(6), -60);
        x.correct(0, 60);
        Checks.due("promise 29: 60", x.told(6), 60);
        Checks.illegal("promise 29: height -1", () -> x.correct(-1, 0));
        Checks.illegal("promise 29: height 51", () -> x.correct(51, 0));
        Checks.illegal("promise 29: index -61", () -> x.correct(0, -61));
        Checks.illegal("promise 29: index 61", () -> x.correct(0, 61));
        Checks.due("promise 29: unchanged", x.told(6), 60);
        Checks.due("promise 29: recorded", x.undoCount(), 10);
    }

    private static void format() {
        SightReducer x = Checks.loaded(SEA + "body abcdefgh 0 0;sight north 0 1806;sight west 0 1791;sight abcdefgh 0 300;");
        Checks.due("promise 31: no call yet", x.formattedByte(0), NONE);
        Checks.due("promise 30: length", x.format(0), 17);
        Checks.due("promise 30: toward", Checks.formatted(x), "north 30'05 z0 t5");
        Checks.due("promise 30: length", x.format(1), 19);
        Checks.due("promise 30: away", Checks.formatted(x), "west 29'50 z270 a10");
        Checks.load(x, SEA + "body abcdefgh 0 0;sight north 0 1806;sight east 0 1801;sight abcdefgh 0 300;");
        x.format(1);
        Checks.due("promise 30: an intercept of 0 is toward", Checks.formatted(x), "east 30'00 z90 t0");
        x.format(2);
        Checks.due("promise 30: a longer name", Checks.formatted(x),
                "abcdefgh 4'" + (x.sight(2, 4) - 240) + " z0 a" + (5400 - x.sight(2, 4)));
        x.format(0);
        Checks.missing("promise 30: sight 3", () -> x.format(3));
        Checks.missing("promise 30: sight -1", () -> x.format(-1));
        Checks.due("promise 31: a refused call leaves the text", Checks.formatted(x), "north 30'05 z0 t5");
        x.correct(50, 60);
        x.drop(0);
        Checks.due("promise 31: the text as it was then", Checks.formatted(x), "north 30'05 z0 t5");
        Checks.due("promise 31: a byte", x.formattedByte(8), 39);
        Checks.due("promise 31: -1", x.formattedByte(-1), NONE);
        Checks.due("promise 31: behind the end", x.formattedByte(17), NONE);
        Checks.due("promise 31: far behind", x.formattedByte(MOST), NONE);
        Checks.due("promise 31: far before", x.formattedByte(LEAST), NONE);
        x.load(0);
        Checks.due("promise 31: also after another text", x.formattedByte(0), (int) 'n');
    }

    private static void undo() {
        SightReducer x = Checks.loaded("current 1 2;eye 3;index 4;" + SEA + "leg 5 6 7;sight north 0 400;");
        String[] before = new String[13];
        for (int i = 0; i < 13; i++) {
            before[i] = Checks.everything(x);
            switch (i % 5) {
                case 0 -> x.observe(i % 4, i, 500 + i);
                case 1 -> x.steer(100 + i, i, i);
                case 2 -> x.setCurrent(i, i);
                case 3 -> x.correct(i, i);
                default -> x.drop(0);
            }
            Checks.due("promise 32: at most 10", x.undoCount(), Math.min(10, i + 1));
        }
        for (int i = 12; i >= 3; i--) {
            Checks.due("promise 33: how many are left", x.undo(), i - 3);
            Checks.due("promise 33: everything is as before", Checks.everything(x),
                    before[i]);
        }
        Checks.due("promise 33: nothing to undo", x.undo(), NONE);
        Checks.due("promise 32: none", x.undoCount(), 0);
        x.steer(4000, 0, 0);
        Checks.due("promise 33: again", x.undo(), 0);
    }

    private static void snapshot() {
        SightReducer x = Checks.loaded(SEA + "leg 5 6 7;sight north 0 400;eye 3;index 4;current 1 2;");
        x.steer(10, 11, 12);
        x.saveSnapshot();
        Checks.due("promise 34: the history stays", x.undoCount(), 1);
        String saved = Checks.everything(x);
        x.observe(1, 2, 500);
        x.steer(20, 0, 0);
        x.setCurrent(9, 9);
        x.correct(9, 9);
        x.drop(0);
        Checks.due("promise 35: restored", x.restoreSnapshot(), true);
        Checks.due("promise 35: everything, and no history", Checks.everything(x), saved);
        Checks.due("promise 35: nothing to undo", x.undo(), NONE);
        x.drop(0);
        Checks.due("promise 35: it is kept", x.restoreSnapshot(), true);
        Checks.due("promise 35: everything again", Checks.everything(x), saved);
        x.drop(0);
        x.saveSnapshot();
        x.observe(0, 0, 600);
        x.undo();
        x.undo();
        Checks.due("promise 34: undoing past it", x.told(2), 1);
        x.restoreSnapshot();
        Checks.due("promise 34: the later one replaces the earlier", x.told(2), 0);
        Checks.due("promise 35: after another text", Checks.load(x, "eye 1;") == 0 && x.restoreSnapshot(), false);
        Checks.due("promise 35: nothing changes then", x.told(5), 1);
    }

    private static SightReducer asked() {
        return Checks.loaded(SEA + "sight north 0 1806;sight east 0 1804;sight south 0 1701;sight west 9 1802;");
    }

    private static void answer(String text, int due) {
        Checks.due("promise 36: " + text, Checks.query(asked(), text), due);
    }

    private static void query() {
        answer("many 0=0", 4);
        answer("many 99999<0", 0);
        answer("first 0=1", NONE);
        answer("first sight>1", 2);
        answer("many sight<3", 3);
        answer("first sight=3", 3);
        answer("many body>0", 3);
        answer("many body=sight", 4);
        answer("first time=9", 3);
        answer("many altitude=1805", 1);
        answer("many altitude>1700", 3);
        answer("many expected=1800", 3);
        answer("first expected<1800", 3);
        answer("first azimuth=5400", 1);
        answer("many azimuth<10801", 3);
        answer("first away=100", 2);
        answer("many away<6", 2);
        answer("many altitude<expected", 1);
        answer("many not sight=0", 3);
        answer("many not not sight=0", 1);
        answer("many not sight=0 and sight<2", 1);
        answer("many not(sight=0 or sight=1)", 2);
        answer("many sight=0 or sight=1 and sight=2", 1);
        answer("many (sight=0 or sight=1) and sight=2", 0);
        answer("many sight=2 and sight=1 or sight=0", 1);
        answer("many sight=0 or sight=1 or sight=2 or sight=2", 3);
        answer("first sight>0 and sight<3 and sight=2", 2);
        answer("many\n  00000000003>sight", 3);
        answer("many not not not not not not sight=0", 1);
        answer("many ((((((sight=0))))))", 1);
        answer("many not(not(not(sight=0)))", 3);
        answer("many not not not sight=0 and not not not not not not sight>0 and ((((((1=1))))))", 3);
        answer("many(sight=0)and not(sight=1)", 1);
        SightReducer none = new SightReducer();
        Checks.due("promise 36: no sights", Checks.query(none, "many not 0=1"), 0);
        Checks.due("promise 36: no first", Checks.query(none, "first not 0=1"), NONE);
        SightReducer x = asked();
        String before = Checks.everything(x);
        Checks.query(x, "many sight=0");
        Checks.query(x, "first 1=1");
        Checks.due("promise 36: a query changes nothing", Checks.everything(x), before);
        Checks.due("promise 36: below the horizon", Checks.query(Checks.loaded("body a 0 10800;sight a 0 300;"),
                "many expected<0"), 1);
    }

    private static void refusedQuery(String text, int code, int position) {
        SightReducer x = asked();
        Checks.due("promise 36: " + text, Checks.query(x, text), HIDDEN - code);
        Checks.due("promise 4: " + text, x.errorPosition(), position);
        Checks.due("promise 36: the buffer after " + text, x.feed(0, 0, 0, 0, 0), 20);
    }

    private static void queryErrors() {
        refusedQuery("", 1, 0);
        refusedQuery("  ", 1, 2);
        refusedQuery("sight=0", 1, 0);
        refusedQuery("many", 1, 4);
        refusedQuery("many many", 1, 5);
        refusedQuery("many sight", 1, 10);
        refusedQuery("many sight ", 1, 11);
        refusedQuery("many sight=", 1, 11);
        refusedQuery("many sight==0", 1, 11);
        refusedQuery("many sight!0", 1, 10);
        refusedQuery("many sights=0", 1, 5);
        refusedQuery("many sight=0 sight=1", 1, 13);
        refusedQuery("many sight=0;", 1, 12);
        refusedQuery("many sight=0)", 1, 12);
        refusedQuery("many (sight=0", 1, 13);
        refusedQuery("many (sight=0 sight=1)", 1, 14);
        refusedQuery("many sight=0 and", 1, 16);
        refusedQuery("many or sight=0", 1, 5);
        refusedQuery("many sight=not sight=0", 1, 11);
        refusedQuery("many sight=(0)", 1, 11);
        refusedQuery("many (sight)=0", 1, 11);
        refusedQuery("many -1=0", 1, 5);
        refusedQuery("many sight=-1", 1, 11);
        refusedQuery("many sight<100000", 2, 11);
        refusedQuery("many 100000=sight x", 2, 5);
        refusedQuery("many not not not not not not not sight=0", 3, 29);
        refusedQuery("many (((((((sight=0)))))))", 3, 11);
        refusedQuery("many not(not(not(not sight=0)))", 3, 17);
        refusedQuery("many not not not not not not sight=0 and ((((((not", 3, 47);
        refusedQuery("many sight=0 and (((not not not not", 3, 32);
        refusedQuery("first altitude>(", 1, 15);
        refusedQuery("First sight=0", 1, 0);
    }

    private static void queryLength() {
        SightReducer x = asked();
        Checks.illegal("promise 36: below 0", () -> x.query(-1));
        Checks.illegal("promise 36: more than there is", () -> x.query(1));
        Checks.feed(x, "many sight=0" + " ".repeat(228));
        Checks.illegal("promise 36: above 200", () -> x.query(201));
        Checks.illegal("promise 36: the least", () -> x.query(LEAST));
        Checks.due("promise 36: a refused length leaves the buffer", x.feed(0, 0, 0, 0, 0), 260);
        Checks.due("promise 36: 200", x.query(200), 1);
        Checks.due("promise 36: the buffer is empty", x.feed(0, 0, 0, 0, 0), 20);
        x.query(0);
        Checks.due("promise 36: the longest", Checks.query(asked(), "many sight=0" + " or sight=1".repeat(17)), 2);
        Checks.feed(x, "many 1=1 or");
        Checks.due("promise 36: only the first bytes", x.query(8), 4);
    }
}
