import java.util.ArrayList;
import java.util.List;
import java.util.function.Consumer;

/** The edges that "Operations" names, with promises 30 (format) to 35 (restoreSnapshot). */
public final class OperationsTest {
    private static final int NONE = SightReducer.NONE;
    private static final String SEA = "body north 3600 0;body east 0 18000;";

    public static void main(String[] args) throws Exception {
        Checks.runAll(OperationsTest.class);
    }

    private static SightReducer atSea() {
        return Checks.loaded("start 1 2;eye 3;index 4;current 5 6;" + SEA + "leg 7 8 9;leg 10 11 12;"
                + "sight north 13 400;sight east 14 500;sight north 15 600;");
    }

    /** The five operations, each of them changing something whenever it is made. */
    private static void operate(SightReducer x, int number) {
        switch (number % 5) {
            case 0 -> Checks.due("observe", x.observe(number % 2, number, 300 + number) >= 0, true);
            case 1 -> Checks.due("steer", x.steer(100 + number, number, number) >= 0, true);
            case 2 -> Checks.due("setCurrent", x.setCurrent(number, number) >= 0, true);
            case 3 -> Checks.due("correct", x.correct(number % 51, number % 61) >= 0, true);
            default -> Checks.due("drop", x.drop(0) >= 0, true);
        }
    }

    // ---- What is recorded ----

    /** Operations: "Undoing restores everything that the operation changed": each of the five operations alone. */
    static void p33EachOperationIsUndone() {
        List<Consumer<SightReducer>> operations = List.of(x -> x.observe(1, 5000, 5100), x -> x.steer(5000, 21599, 400),
                x -> x.setCurrent(21599, 100), x -> x.correct(50, -60), x -> x.drop(0), x -> x.drop(1), x -> x.drop(2));
        for (Consumer<SightReducer> operation : operations) {
            SightReducer x = atSea();
            String before = Checks.everything(x);
            operation.accept(x);
            Checks.due("something is changed", Checks.everything(x).equals(before), false);
            Checks.due("recorded", x.undoCount(), 1);
            Checks.due("undone", x.undo(), 0);
            Checks.due("everything is as before", Checks.everything(x), before);
        }
    }

    /** Operations: "Every successful call of an operation is recorded, even if it changes nothing". */
    static void p32CallsThatChangeNothingAreRecorded() {
        SightReducer x = atSea();
        String before = Checks.everything(x);
        Checks.due("the same current", x.setCurrent(5, 6), 6);
        Checks.due("recorded", x.undoCount(), 1);
        Checks.due("the same eye and index error", x.correct(3, 4), 3);
        Checks.due("recorded", x.undoCount(), 2);
        Checks.due("nothing is changed", Checks.everything(x), before);
        Checks.due("undone", x.undo(), 1);
        Checks.due("undone", x.undo(), 0);
        Checks.due("nothing is changed", Checks.everything(x), before);
    }

    /** Operations: "A call that returns a negative error code or throws an exception changes nothing": no record. */
    static void p32RefusedOperationsAreNotRecorded() {
        SightReducer x = atSea();
        Checks.due("a leg that is not later", x.steer(10, 0, 0), -3);
        Checks.missing("body", () -> x.observe(2, 0, 300));
        Checks.illegal("altitude", () -> x.observe(0, 0, 299));
        Checks.missing("sight", () -> x.drop(3));
        Checks.illegal("course", () -> x.steer(11, 21600, 0));
        Checks.illegal("drift", () -> x.setCurrent(0, 101));
        Checks.illegal("height", () -> x.correct(51, 0));
        Checks.due("nothing is recorded", x.undoCount(), 0);
        Checks.due("nothing to undo", x.undo(), NONE);
        for (int sight = 3; sight < 12; sight++) {
            x.observe(0, 0, 300);
        }
        Checks.due("a 13th sight", x.observe(0, 0, 300), -2);
        Checks.due("only the sights are recorded", x.undoCount(), 9);
        SightReducer y = Checks.loaded("leg 0 0 0;leg 1 0 0;leg 2 0 0;leg 3 0 0;leg 4 0 0;leg 5 0 0;leg 6 0 0;");
        y.steer(7, 0, 0);
        Checks.due("a 9th leg", y.steer(5000, 0, 0), -2);
        Checks.due("only the 8th is recorded", y.undoCount(), 1);
    }

    /** Operations: asking, formatting, feeding, reading a query and saving are no operations. */
    static void p32OtherCallsAreNotRecorded() {
        SightReducer x = atSea();
        x.setCurrent(1, 1);
        Checks.everything(x);
        x.format(0);
        x.saveSnapshot();
        Checks.query(x, "many 1=1");
        Checks.query(x, "many");
        Checks.load(x, "?");
        Checks.due("one operation", x.undoCount(), 1);
    }

    // ---- How much is kept ----

    /** Operations: "The 10 most recent operations can be undone": 9, 10, 11 and 12 of them. */
    static void p32TenOperationsAreKept() {
        for (int made : new int[] {9, 10, 11, 12, 25}) {
            SightReducer x = new SightReducer();
            for (int operation = 1; operation <= made; operation++) {
                x.setCurrent(operation, operation);
                Checks.due("undoCount", x.undoCount(), Math.min(10, operation));
            }
            int kept = Math.min(10, made);
            for (int left = kept - 1; left >= 0; left--) {
                Checks.due("undo", x.undo(), left);
            }
            Checks.due("drift before the operations that are kept", x.told(8), made - kept);
            Checks.due("no more", x.undo(), NONE);
            Checks.due("nothing is changed", x.told(8), made - kept);
        }
    }

    /** Operations: "the most recent one first": all five kinds, more of them than are kept. */
    static void p33TheMostRecentOneFirst() {
        SightReducer x = atSea();
        List<String> before = new ArrayList<>();
        for (int operation = 0; operation < 14; operation++) {
            before.add(Checks.everything(x));
            operate(x, operation);
        }
        for (int operation = 13; operation >= 4; operation--) {
            Checks.due("how many are left", x.undo(), operation - 4);
            Checks.due("before operation " + operation, Checks.everything(x), before.get(operation));
        }
        Checks.due("no more", x.undo(), NONE);
        Checks.due("nothing is changed", Checks.everything(x), before.get(4));
    }

    /** Promise 33: "NONE if there was nothing to undo": at first, after a text, after all, and again. */
    static void p33NothingToUndo() {
        SightReducer x = new SightReducer();
        Checks.due("at first", x.undo(), NONE);
        Checks.due("again", x.undo(), NONE);
        x.correct(1, 1);
        Checks.due("one", x.undo(), 0);
        Checks.due("after all", x.undo(), NONE);
        Checks.due("undoCount", x.undoCount(), 0);
        x.correct(1, 1);
        Checks.due("loading", x.load(0), 0);
        Checks.due("after a text", x.undo(), NONE);
        x.correct(2, 2);
        Checks.due("a later operation", x.undo(), 0);
        Checks.due("eye", x.told(5), 0);
    }

    /** Operations: undone operations make room again, also where the kept ones go round. */
    static void p33OperationsAndUndoingInTurns() {
        SightReducer x = new SightReducer();
        List<Integer> drifts = new ArrayList<>(List.of(0));
        for (int turn = 0; turn < 60; turn++) {
            boolean isUndo = turn % 7 > 3 && drifts.size() > 1;
            if (isUndo) {
                drifts.remove(drifts.size() - 1);
                Checks.due("left", x.undo(), drifts.size() - 1);
            } else {
                x.setCurrent(turn, turn + 1);
                drifts.add(turn + 1);
                if (drifts.size() > 11) {
                    drifts.remove(0);
                }
            }
            Checks.due("drift", x.told(8), drifts.get(drifts.size() - 1));
            Checks.due("undoCount", x.undoCount(), drifts.size() - 1);
        }
    }

    /** Operations: undoing restores the full tables, 12 sights and 8 legs. */
    static void p33FullTablesAreRestored() {
        SightReducer x = Checks.loaded(SEA);
        for (int sight = 0; sight < 12; sight++) {
            x.observe(sight % 2, sight, 300 + sight);
        }
        for (int leg = 0; leg < 8; leg++) {
            x.steer(leg, leg, leg);
        }
        String before = Checks.everything(x);
        for (int dropped = 0; dropped < 10; dropped++) {
            x.drop(dropped / 4);
        }
        for (int dropped = 0; dropped < 10; dropped++) {
            x.undo();
        }
        Checks.due("everything", Checks.everything(x), before);
        Checks.due("12 sights", x.told(2), 12);
    }

    /** Promise 33: undoing leaves what no operation changes: the buffer, the error position and the formatted text. */
    static void p33UndoingLeavesTheRest() {
        SightReducer x = atSea();
        x.drop(0);
        Checks.load(x, "  ?");
        x.format(0);
        String text = Checks.formatted(x);
        Checks.feed(x, "eye 44;");
        Checks.due("undo", x.undo(), 0);
        Checks.due("the error position", x.errorPosition(), 2);
        Checks.due("the formatted text", Checks.formatted(x), text);
        Checks.due("the buffer", x.load(7), 0);
        Checks.due("what was in it", x.told(5), 44);
    }

    // ---- Snapshots ----

    /** Promise 35: "false if there is no snapshot (nothing changes)": the history stays, too. */
    static void p35NoSnapshot() {
        SightReducer x = atSea();
        x.drop(0);
        x.correct(50, 60);
        String before = Checks.everything(x);
        Checks.due("none", x.restoreSnapshot(), false);
        Checks.due("none still", x.restoreSnapshot(), false);
        Checks.due("everything", Checks.everything(x), before);
        Checks.due("the history", x.undoCount(), 2);
        Checks.due("a new object has none", new SightReducer().restoreSnapshot(), false);
    }

    /** Promise 35: "Restores the snapshot and clears the undo history": after each of the five operations. */
    static void p35RestoringClearsTheHistory() {
        SightReducer x = atSea();
        x.saveSnapshot();
        String saved = Checks.everything(x);
        for (int operation = 0; operation < 5; operation++) {
            operate(x, operation);
            operate(x, operation == 4 ? 2 : operation + 5);
            Checks.due("something is changed", Checks.everything(x).equals(saved), false);
            Checks.due("restored", x.restoreSnapshot(), true);
            Checks.due("everything", Checks.everything(x), saved);
            Checks.due("no history", x.undoCount(), 0);
            Checks.due("nothing to undo", x.undo(), NONE);
        }
    }

    /** Promise 35: "The snapshot is kept": it is not changed by operations after it has been restored. */
    static void p35TheSnapshotIsKept() {
        SightReducer x = atSea();
        x.saveSnapshot();
        String saved = Checks.everything(x);
        for (int time = 0; time < 3; time++) {
            Checks.due("restored", x.restoreSnapshot(), true);
            Checks.due("everything", Checks.everything(x), saved);
            x.drop(0);
            x.steer(4000, 1, 1);
            x.setCurrent(9, 9);
            x.undo();
        }
    }

    /** Promise 34: "It replaces an earlier snapshot", and the history stays as it is. */
    static void p34ALaterSnapshotReplacesAnEarlierOne() {
        SightReducer x = atSea();
        x.saveSnapshot();
        x.drop(0);
        x.saveSnapshot();
        Checks.due("the history stays", x.undoCount(), 1);
        String saved = Checks.everything(x);
        Checks.due("undone past both", x.undo(), 0);
        Checks.due("sights", x.told(2), 3);
        x.restoreSnapshot();
        Checks.due("the later one", Checks.everything(x), saved);
    }

    /** Promise 34: "a snapshot of everything that undoing restores": the empty tables, too. */
    static void p34ASnapshotOfNothing() {
        SightReducer x = new SightReducer();
        x.saveSnapshot();
        x.steer(1, 2, 3);
        x.setCurrent(4, 5);
        x.correct(6, 7);
        Checks.due("restored", x.restoreSnapshot(), true);
        for (int what = 0; what <= 8; what++) {
            Checks.due("told " + what, x.told(what), 0);
        }
    }

    /** Promise 34: a snapshot of the full tables, 12 sights and 8 legs. */
    static void p34ASnapshotOfFullTables() {
        SightReducer x = Checks.loaded(SEA);
        for (int sight = 0; sight < 12; sight++) {
            x.observe(sight % 2, sight, 300 + sight);
        }
        for (int leg = 0; leg < 8; leg++) {
            x.steer(leg, leg, leg);
        }
        x.saveSnapshot();
        String saved = Checks.everything(x);
        while (x.told(2) > 0) {
            x.drop(0);
        }
        Checks.due("restored", x.restoreSnapshot(), true);
        Checks.due("everything", Checks.everything(x), saved);
        Checks.due("full", x.observe(0, 0, 300), -2);
    }

    /** Promise 3: "the undo history and the snapshot are discarded", but not by a text with an error. */
    static void p3TextsAndSnapshots() {
        SightReducer x = atSea();
        x.correct(9, 9);
        x.saveSnapshot();
        x.correct(10, 10);
        Checks.load(x, "eye 51;");
        Checks.due("history after a wrong text", x.undoCount(), 2);
        Checks.due("snapshot after a wrong text", x.restoreSnapshot(), true);
        Checks.due("eye", x.told(5), 9);
        x.correct(11, 11);
        Checks.load(x, "eye 5;");
        Checks.due("history after a text", x.undoCount(), 0);
        Checks.due("snapshot after a text", x.restoreSnapshot(), false);
        Checks.due("eye", x.told(5), 5);
        x.saveSnapshot();
        Checks.due("a new one", x.restoreSnapshot(), true);
    }

    // ---- Formatted sights ----

    private static void formatted(String text, String due) {
        SightReducer x = Checks.loaded(text);
        Checks.due("length of " + due, x.format(0), due.length());
        Checks.due(text, Checks.formatted(x), due);
    }

    /** Promise 30: "the rest of this division as 2 digits": 0, 1, 9, 10 and 59. */
    static void p30TheRestAsTwoDigits() {
        formatted("body a 0 16200;sight a 0 310;", "a 5'00 z90 t300");
        formatted("body a 0 16200;sight a 0 311;", "a 5'01 z90 t301");
        formatted("body a 0 16200;sight a 0 320;", "a 5'10 z90 t310");
        formatted("body a 0 16200;sight a 0 3599;", "a 59'59 z90 t3599");
        formatted("body a 0 16200;sight a 0 3600;", "a 60'00 z90 t3600");
        formatted("body a 0 16200;sight a 0 3669;", "a 61'09 z90 t3669");
        formatted("body a 0 16200;sight a 0 3670;", "a 61'10 z90 t3670");
    }

    /** Promise 30: "the degrees of its azimuth (rounded down)": just below and at a degree, and 359 at most. */
    static void p30TheDegreesOfTheAzimuth() {
        formatted("start -600 0;body a 766 21480;sight a 0 1801;", "a 30'00 z0 a2226");
        formatted("start 600 0;body a 3430 21392;sight a 0 1801;", "a 30'00 z1 a774");
        formatted("start 600 0;body a 3060 21512;sight a 0 1801;", "a 30'00 z1 a1146");
        formatted("body a -48 21298;sight a 0 1801;", "a 30'00 z98 a3294");
        formatted("body a -48 21299;sight a 0 1801;", "a 30'00 z99 a3295");
        formatted("start 600 0;body a 3060 28;sight a 0 1801;", "a 30'00 z358 a1146");
        formatted("start 600 0;body a 3430 185;sight a 0 1801;", "a 30'00 z359 a774");
        formatted("start -600 0;body a 766 109;sight a 0 1801;", "a 30'00 z359 a2226");
    }

    /** Promise 30: "'t' (if its intercept is at least 0) or 'a', and the absolute value of the intercept". */
    static void p30TowardAndAway() {
        formatted("body a 3600 0;sight a 0 1802;", "a 30'01 z0 t1");
        formatted("body a 3600 0;sight a 0 1801;", "a 30'00 z0 t0");
        formatted("body a 3600 0;sight a 0 1800;", "a 29'59 z0 a1");
    }

    /** Promise 30: "the name of its body": 1 and 8 letters, and the least and greatest observed altitude. */
    static void p30TheShortestAndTheLongestText() {
        formatted("eye 50;index -60;body x 0 0;sight x 0 300;", "x 3'34 z0 a5186");
        formatted("body abcdefgh 0 10801;index 60;sight abcdefgh 0 5100;", "abcdefgh 86'00 z90 t10559");
        formatted("body z 3600 0;sight z 0 1801;", "z 30'00 z0 t0");
    }

    /** Promise 30: "if there is no such sight": with no sight, and beside the last one. */
    static void p30SightsThatAreNotThere() {
        Checks.missing("no sights", () -> new SightReducer().format(0));
        SightReducer x = atSea();
        Checks.due("the last one", x.format(2) > 0, true);
        for (int sight : new int[] {-1, 3, Integer.MIN_VALUE, Integer.MAX_VALUE}) {
            Checks.missing("sight " + sight, () -> x.format(sight));
        }
    }

    /** Promise 31: "NONE if index is out of range or there was no such call". */
    static void p31TheEndsOfTheText() {
        SightReducer x = Checks.loaded("body abcdefgh 0 10801;index 60;sight abcdefgh 0 5100;body z 3600 0;sight z 0 1741;");
        for (int index : new int[] {0, -1, 1, Integer.MIN_VALUE, Integer.MAX_VALUE}) {
            Checks.due("no call yet, index " + index, x.formattedByte(index), NONE);
        }
        Checks.due("length", x.format(0), 25);
        Checks.due("the first byte", x.formattedByte(0), (int) 'a');
        Checks.due("the degree's sign", x.formattedByte(11), 39);
        Checks.due("the last byte", x.formattedByte(24), (int) '9');
        for (int index : new int[] {25, 26, -1, Integer.MIN_VALUE, Integer.MAX_VALUE}) {
            Checks.due("index " + index, x.formattedByte(index), NONE);
        }
        Checks.due("a shorter text", x.format(1), 13);
        Checks.due("its last byte", x.formattedByte(12), (int) '0');
        Checks.due("nothing of the longer one", x.formattedByte(13), NONE);
    }

    /** Promise 31: "the text of the most recent call of format, as it was then". */
    static void p31TheTextAsItWasThen() {
        SightReducer x = atSea();
        x.format(1);
        String text = Checks.formatted(x);
        x.correct(50, 60);
        Checks.due("after another eye", Checks.formatted(x), text);
        x.drop(1);
        Checks.due("after the sight is dropped", Checks.formatted(x), text);
        x.undo();
        Checks.due("after undoing", Checks.formatted(x), text);
        Checks.missing("no such sight", () -> x.format(3));
        Checks.due("after a call that was refused", Checks.formatted(x), text);
        Checks.load(x, "?");
        Checks.due("after a wrong text", Checks.formatted(x), text);
        Checks.load(x, "");
        Checks.due("after a text without sights", Checks.formatted(x), text);
    }
}
