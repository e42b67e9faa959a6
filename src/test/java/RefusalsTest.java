import java.util.function.Function;

/**
 * Each call that the document refuses with an exception, in the order in which it checks, and that nothing is changed:
 * after the call the object answers as a twin does which was not asked.
 */
public final class RefusalsTest {
    private static final int LEAST = Integer.MIN_VALUE;
    private static final int MOST = Integer.MAX_VALUE;
    private static final int SPACES = 0x20202020;
    private static final int[] NO_TIME = {-1, 5001, LEAST, MOST};
    private static final int[] NO_SIGHT = {-1, 2, LEAST, MOST};

    public static void main(String[] args) throws Exception {
        Checks.runAll(RefusalsTest.class);
    }

    /** Something of everything: a wrong text, a formatted one, a snapshot, a history and a text that waits. */
    private static SightReducer used() {
        SightReducer x = Checks.loaded("start 7 8;eye 9;current 4 5;body n 3600 0;body e 0 18000;sight n 0 1806;leg 1 0 6;");
        Checks.load(x, "   eye 51;");
        x.format(0);
        x.correct(10, 4);
        x.saveSnapshot();
        x.observe(1, 0, 1804);
        Checks.feed(x, "eye 44;index 9;many?");
        return x;
    }

    /** All that an object can still tell; it is used up thereby. */
    private static String all(SightReducer x) {
        StringBuilder all = new StringBuilder();
        all.append(Checks.everything(x)).append(x.errorPosition()).append(' ').append(x.undoCount());
        while (x.undoCount() > 0) {
            all.append('\n').append(x.undo()).append(' ').append(Checks.everything(x));
        }
        all.append('\n').append(x.restoreSnapshot()).append(' ').append(Checks.everything(x));
        all.append('\n').append(x.feed(SPACES, SPACES, SPACES, SPACES, SPACES)).append(' ').append(x.load(15));
        return all.append(' ').append(x.told(5)).append(x.told(6)).append(x.restoreSnapshot()).toString();
    }

    private static void illegal(String name, Function<SightReducer, Object> call) {
        SightReducer x = used();
        Checks.illegal(name, () -> call.apply(x));
        Checks.due("nothing is changed by " + name, all(x), all(used()));
    }

    private static void missing(String name, Function<SightReducer, Object> call) {
        SightReducer x = used();
        Checks.missing(name, () -> call.apply(x));
        Checks.due("nothing is changed by " + name, all(x), all(used()));
    }

    /** Promises 3 and 36: "(nothing changes)". */
    static void p3p36Lengths() {
        for (int length : new int[] {-1, 21, 701, LEAST, MOST}) {
            illegal("load " + length, x -> x.load(length));
            illegal("query " + length, x -> x.query(length));
        }
    }

    /** Promises 6 to 9: numbers and properties. */
    static void p6To9NumbersAndProperties() {
        for (int value : new int[] {1000001, -1000001, LEAST, MOST}) {
            illegal("arc " + value, x -> x.arc(value));
        }
        for (int what : new int[] {-1, 9, LEAST, MOST}) {
            missing("told " + what, x -> x.told(what));
            missing("sight " + what, x -> x.sight(0, what));
        }
        for (int body : new int[] {-1, 2, LEAST, MOST}) {
            missing("body " + body, x -> x.body(body, 0));
        }
        for (int leg : new int[] {-1, 1, LEAST, MOST}) {
            missing("leg " + leg, x -> x.leg(leg, 0));
        }
        missing("body's property", x -> x.body(0, 4));
        missing("leg's property", x -> x.leg(0, 3));
    }

    /** Promises 10, 11, 16, 18, 20 to 23: "if time is out of range". */
    static void p10To23Times() {
        for (int time : NO_TIME) {
            illegal("displacement " + time, x -> x.displacement(time, true));
            illegal("reckoned " + time, x -> x.reckoned(time, true));
            illegal("smallestHat " + time, x -> x.smallestHat(time));
            illegal("fix " + time, x -> x.fix(time, true));
            illegal("worst " + time, x -> x.worst(time));
            illegal("offCourse " + time, x -> x.offCourse(time));
            illegal("unknownCurrent " + time, x -> x.unknownCurrent(time, true));
            illegal("meanResidual " + time, x -> x.meanResidual(time));
        }
        illegal("unknownCurrent 0", x -> x.unknownCurrent(0, false));
    }

    /** Promises 12 to 19 and 30: "if there is no such sight (checked first)", with a wrong time and a right one. */
    static void p12To30SightsAreCheckedFirst() {
        for (int sight : NO_SIGHT) {
            missing("sight " + sight, x -> x.sight(sight, 0));
            missing("format " + sight, x -> x.format(sight));
            for (int time : new int[] {0, -1, 5001}) {
                missing("carried " + sight, x -> x.carried(sight, time));
                missing("residual " + sight, x -> x.residual(sight, time));
                missing("crossing " + sight, x -> x.crossing(sight, 0, time, true));
                missing("crossing 0 " + sight, x -> x.crossing(0, sight, time, true));
                missing("hat " + sight, x -> x.hat(sight, 0, 1, time, 0));
                missing("hat 0 " + sight, x -> x.hat(0, sight, 1, time, 3));
                missing("hat 0 1 " + sight, x -> x.hat(0, 1, sight, time, -1));
                missing("isInside " + sight, x -> x.isInside(sight, 0, 1, time, 0, 0));
                missing("isInside 0 " + sight, x -> x.isInside(0, sight, 1, time, MOST, 0));
                missing("isInside 0 1 " + sight, x -> x.isInside(0, 1, sight, time, 0, LEAST));
            }
        }
    }

    /** Promises 13 to 15, 17 and 19: "if time is out of range", though the sights are there. */
    static void p13To19TimesOfSights() {
        for (int time : NO_TIME) {
            illegal("carried " + time, x -> x.carried(0, time));
            illegal("crossing " + time, x -> x.crossing(0, 1, time, true));
            illegal("crossing with itself " + time, x -> x.crossing(0, 0, time, true));
            illegal("hat " + time, x -> x.hat(0, 1, 1, time, 0));
            illegal("isInside " + time, x -> x.isInside(0, 1, 1, time, 0, 0));
            illegal("residual " + time, x -> x.residual(0, time));
        }
    }

    /** Promises 15 and 17: "if time or what is out of range", "if time, east or north is out of range": without a hat. */
    static void p15p17WhatAndPlaces() {
        for (int what : new int[] {-1, 3, LEAST, MOST}) {
            illegal("hat " + what, x -> x.hat(0, 1, 1, 0, what));
        }
        for (int out : new int[] {1000001, -1000001, LEAST, MOST}) {
            illegal("isInside east " + out, x -> x.isInside(0, 1, 1, 0, out, 0));
            illegal("isInside north " + out, x -> x.isInside(0, 1, 1, 0, 0, out));
        }
    }

    /** Promise 25: "if there is no such body (checked first)", then time and altitude. */
    static void p25Observe() {
        for (int body : new int[] {-1, 2, LEAST, MOST}) {
            missing("body " + body, x -> x.observe(body, 0, 300));
            missing("body " + body + " and time", x -> x.observe(body, -1, 300));
            missing("body " + body + " and altitude", x -> x.observe(body, 0, 5101));
        }
        for (int time : NO_TIME) {
            illegal("time " + time, x -> x.observe(0, time, 300));
        }
        for (int altitude : new int[] {299, 5101, 0, -300, LEAST, MOST}) {
            illegal("altitude " + altitude, x -> x.observe(0, 0, altitude));
        }
    }

    /** Promise 26: "if there is no such sight". */
    static void p26Drop() {
        for (int sight : NO_SIGHT) {
            missing("sight " + sight, x -> x.drop(sight));
        }
    }

    /** Promise 27: "if a parameter is out of range", though the leg would not be later. */
    static void p27Steer() {
        for (int time : NO_TIME) {
            illegal("time " + time, x -> x.steer(time, 0, 0));
        }
        for (int course : new int[] {-1, 21600, LEAST, MOST}) {
            illegal("course " + course, x -> x.steer(5000, course, 0));
            illegal("course " + course + " at a time that is not greater", x -> x.steer(1, course, 0));
        }
        for (int speed : new int[] {-1, 401, LEAST, MOST}) {
            illegal("speed " + speed, x -> x.steer(5000, 0, speed));
            illegal("speed " + speed + " at a time that is not greater", x -> x.steer(1, 0, speed));
        }
    }

    /** Promise 28: "if set is not 0 to 21599 or drift is not 0 to 100". */
    static void p28SetCurrent() {
        for (int set : new int[] {-1, 21600, LEAST, MOST}) {
            illegal("set " + set, x -> x.setCurrent(set, 0));
        }
        for (int drift : new int[] {-1, 101, LEAST, MOST}) {
            illegal("drift " + drift, x -> x.setCurrent(0, drift));
        }
    }

    /** Promise 29: "if height is not 0 to 50 or index is not -60 to 60". */
    static void p29Correct() {
        for (int height : new int[] {-1, 51, LEAST, MOST}) {
            illegal("height " + height, x -> x.correct(height, 0));
        }
        for (int index : new int[] {-61, 61, LEAST, MOST}) {
            illegal("index " + index, x -> x.correct(0, index));
        }
    }

    private static void unchanged(String name, SightReducer asked, SightReducer twin, Object got, Object due) {
        Checks.due(name, got, due);
        Checks.due("nothing is changed by " + name, all(asked), all(twin));
    }

    /** Operations: "A call that returns a negative error code ... changes nothing": promises 25 and 27. */
    static void p25p27ErrorCodes() {
        SightReducer x = used();
        unchanged("a leg at the same time", x, used(), x.steer(1, 1, 1), -3);
        SightReducer y = used();
        unchanged("a leg at an earlier time", y, used(), y.steer(0, 1, 1), -3);
        SightReducer z = full();
        unchanged("a 9th leg", z, full(), z.steer(5000, 1, 1), -2);
        SightReducer w = full();
        unchanged("a 13th sight", w, full(), w.observe(0, 1, 301), -2);
    }

    private static SightReducer full() {
        SightReducer x = Checks.loaded("body a 0 0;" + "sight a 0 300;".repeat(11) + "leg 0 0 0;leg 1 0 0;leg 2 0 0;"
                + "leg 3 0 0;leg 4 0 0;leg 5 0 0;leg 6 0 0;");
        x.observe(0, 0, 300);
        x.steer(7, 0, 0);
        Checks.feed(x, "eye 44;index 9;many?");
        return x;
    }

    /** Promises 2, 33 and 35: "nothing is appended", "nothing to undo", "nothing changes": answers, but no exceptions. */
    static void p2p33p35AnswersThatRefuse() {
        SightReducer x = new SightReducer();
        SightReducer twin = new SightReducer();
        for (int bytes = 20; bytes <= 700; bytes += 20) {
            x.feed(SPACES, SPACES, SPACES, SPACES, SPACES);
            twin.feed(SPACES, SPACES, SPACES, SPACES, SPACES);
        }
        unchanged("feed", x, twin, x.feed(0x3f3f3f3f, 0, 0, 0, 0), SightReducer.NONE);
        SightReducer y = Checks.loaded("eye 3;");
        unchanged("undo", y, Checks.loaded("eye 3;"), y.undo(), SightReducer.NONE);
        SightReducer z = new SightReducer();
        SightReducer other = new SightReducer();
        z.correct(1, 1);
        other.correct(1, 1);
        unchanged("restoreSnapshot", z, other, z.restoreSnapshot(), false);
    }
}
