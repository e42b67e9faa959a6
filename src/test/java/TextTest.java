import java.util.function.ToIntFunction;

/** The edges that "Input text" names for texts, with promises 1 (a new object), 2 (feed), 3 (load) and 4 (errorPosition). */
public final class TextTest {
    private static final int NONE = SightReducer.NONE;
    private static final int SPACES = 0x20202020;
    private static final String BODIES = "body a 0 0;body b 0 0;body c 0 0;body d 0 0;body e 0 0;body f 0 0;";
    private static final String LEGS = "leg 0 0 0;leg 1 0 0;leg 2 0 0;leg 3 0 0;leg 4 0 0;leg 5 0 0;leg 6 0 0;leg 7 0 0;";
    private static final String SIGHTS = "sight a 0 300;".repeat(12);

    public static void main(String[] args) throws Exception {
        Checks.runAll(TextTest.class);
    }

    /** A reducer that has something of everything that a wrong text could spoil. */
    private static SightReducer used() {
        SightReducer x = Checks.loaded("start 7 8;eye 9;index -3;current 4 5;body old 1 2;leg 3 4 5;sight old 6 700;");
        x.format(0);
        x.correct(10, 4);
        x.saveSnapshot();
        x.steer(9, 9, 9);
        return x;
    }

    /** What a wrong text leaves as it is. */
    private static String kept(SightReducer x) {
        StringBuilder all = new StringBuilder(Checks.everything(x));
        while (x.undoCount() > 0) {
            all.append('\n').append(x.undo()).append(' ').append(Checks.everything(x));
        }
        all.append('\n').append(x.restoreSnapshot()).append(' ').append(Checks.everything(x));
        return all.toString();
    }

    private static void refused(String text, int code, int position) {
        SightReducer x = used();
        Checks.due(text, Checks.load(x, text), -10 - code);
        Checks.due("position in " + text, x.errorPosition(), position);
        Checks.due("all else after " + text, kept(x), kept(used()));
        Checks.due("the buffer after " + text, x.feed(SPACES, SPACES, SPACES, SPACES, SPACES), 20);
    }

    private static SightReducer taken(String text, int sights) {
        SightReducer x = used();
        Checks.due(text, Checks.load(x, text), sights);
        Checks.due("no error in " + text, x.errorPosition(), NONE);
        return x;
    }

    // ---- Promise 1 ----

    /** Promise 1: "Creates a reducer as by an empty text": no counts, no settings, nothing to undo or to restore. */
    static void p1ANewObjectIsEmpty() {
        SightReducer x = new SightReducer();
        for (int what = 0; what <= 8; what++) {
            Checks.due("told " + what, x.told(what), 0);
        }
        Checks.due("undoCount", x.undoCount(), 0);
        Checks.due("undo", x.undo(), NONE);
        Checks.due("restoreSnapshot", x.restoreSnapshot(), false);
        Checks.due("errorPosition", x.errorPosition(), NONE);
        Checks.due("formattedByte", x.formattedByte(0), NONE);
        Checks.illegal("an empty buffer", () -> x.load(1));
        Checks.due("the first bytes", x.feed(SPACES, SPACES, SPACES, SPACES, SPACES), 20);
    }

    /** Promise 1: "as by an empty text": an empty text makes a used object like a new one. */
    static void p1AsByAnEmptyText() {
        SightReducer x = used();
        Checks.due("load(0)", x.load(0), 0);
        SightReducer y = new SightReducer();
        Checks.due("counts and settings", x.told(0) + x.told(1) + x.told(2) + x.told(3) + x.told(4) + x.told(5) + x.told(6)
                + x.told(7) + x.told(8), 0);
        Checks.due("undoCount", x.undoCount(), y.undoCount());
        Checks.due("restoreSnapshot", x.restoreSnapshot(), y.restoreSnapshot());
        Checks.due("fix", x.fix(0, false), y.fix(0, false));
        Checks.due("displacement", x.displacement(5000, false), 0);
        Checks.missing("bodies", () -> x.body(0, 0));
        Checks.missing("legs", () -> x.leg(0, 0));
        Checks.missing("sights", () -> x.sight(0, 0));
    }

    // ---- Promise 2 ----

    /** Promise 2: "the four bytes of each parameter, the most significant byte first": a '?' at each of the 20 places. */
    static void p2EachOfTheTwentyBytes() {
        for (int place = 0; place < 20; place++) {
            int[] fours = {SPACES, SPACES, SPACES, SPACES, SPACES};
            int shift = 24 - 8 * (place % 4);
            fours[place / 4] += ('?' - ' ') << shift;
            SightReducer x = new SightReducer();
            x.feed(fours[0], fours[1], fours[2], fours[3], fours[4]);
            Checks.due("a text up to it", x.load(20), -11);
            Checks.due("its place", x.errorPosition(), place);
        }
    }

    /** Promise 2: "NONE if it would exceed 700": 680 and 700 bytes. */
    static void p2SevenHundredBytes() {
        SightReducer x = new SightReducer();
        for (int bytes = 20; bytes <= 700; bytes += 20) {
            Checks.due("bytes", x.feed(SPACES, SPACES, SPACES, SPACES, SPACES), bytes);
        }
        Checks.due("more", x.feed(SPACES, SPACES, SPACES, SPACES, SPACES), NONE);
        Checks.due("still more", x.feed(0, 0, 0, 0, 0), NONE);
        Checks.due("all of them", x.load(700), 0);
        Checks.due("then again", x.feed(SPACES, SPACES, SPACES, SPACES, SPACES), 20);
    }

    /** Promise 2: "and then nothing is appended": the bytes and their number stay. */
    static void p2NothingIsAppendedBeyond() {
        SightReducer x = new SightReducer();
        Checks.feed(x, " ".repeat(699) + "?");
        Checks.due("more", x.feed(0x3b3b3b3b, 0x3b3b3b3b, 0x3b3b3b3b, 0x3b3b3b3b, 0x3b3b3b3b), NONE);
        Checks.illegal("701", () -> x.load(701));
        Checks.due("700", x.load(700), -11);
        Checks.due("the last byte", x.errorPosition(), 699);
    }

    /** Promise 2: bytes from 0 to 255 come as they are: parameters below 0 and the greatest and least ones. */
    static void p2TheEndsOfTheParameters() {
        SightReducer x = new SightReducer();
        // 0x80000000 and 0x7fffffff begin with other bytes than a space, 0x20000000 with one
        int[][] due = {{Integer.MIN_VALUE, 0}, {Integer.MAX_VALUE, 0}, {-1, 0}, {0, 0}, {0x20000000, 1}, {0x200a2080, 3}};
        for (int[] row : due) {
            x.feed(row[0], 0, 0, 0, 0);
            Checks.due("a wrong byte in " + row[0], x.load(20), -11);
            Checks.due("its place", x.errorPosition(), row[1]);
        }
    }

    // ---- Promise 3: length and buffer ----

    /** Promise 3: "if length is negative or greater than the number of bytes in the buffer (nothing changes)". */
    static void p3LengthsThatAreRefused() {
        SightReducer x = used();
        Checks.feed(x, "eye 51;");
        x.load(7);
        Checks.feed(x, "eye 44;");
        for (int length : new int[] {-1, 21, 701, Integer.MIN_VALUE, Integer.MAX_VALUE}) {
            Checks.illegal("length " + length, () -> x.load(length));
        }
        Checks.due("the error position stays", x.errorPosition(), 4);
        Checks.due("all else stays", kept(x), kept(used()));
        Checks.due("the buffer stays", x.load(20), 0);
        Checks.due("and what is in it", x.told(5), 44);
    }

    /** Promise 3: "negative or greater than the number of bytes": 0, and just that number, are right. */
    static void p3LengthsThatAreTaken() {
        SightReducer x = new SightReducer();
        Checks.due("0 of none", x.load(0), 0);
        Checks.illegal("1 of none", () -> x.load(1));
        x.feed(SPACES, SPACES, SPACES, SPACES, SPACES);
        Checks.due("0 of 20", x.load(0), 0);
        x.feed(SPACES, SPACES, SPACES, SPACES, SPACES);
        Checks.due("20 of 20", x.load(20), 0);
    }

    /** Promise 3: "Reads the first bytes of the buffer": those behind them are no part of the text. */
    static void p3OnlyTheFirstBytes() {
        SightReducer x = new SightReducer();
        Checks.feed(x, "eye 45;?");
        Checks.due("up to the sign", x.load(7), 0);
        Checks.due("eye", x.told(5), 45);
        Checks.feed(x, "eye 45;");
        Checks.due("up to the number", x.load(6), -11);
        Checks.due("the text ends there", x.errorPosition(), 6);
        Checks.feed(x, "eye 45;");
        Checks.due("in the number", x.load(5), -11);
        Checks.due("the text ends there", x.errorPosition(), 5);
        Checks.feed(x, "eye 45;");
        Checks.due("in the word", x.load(2), -11);
        Checks.due("that word is none", x.errorPosition(), 0);
    }

    /** Promise 3: "The buffer is empty afterwards, also after an error". */
    static void p3TheBufferIsEmptyAfterwards() {
        for (String text : new String[] {"eye 5;" + " ".repeat(40), "eye 51;" + " ".repeat(40)}) {
            SightReducer x = new SightReducer();
            Checks.feed(x, text);
            x.load(7);
            Checks.illegal("a byte", () -> x.load(1));
            Checks.due("bytes", x.feed(SPACES, SPACES, SPACES, SPACES, SPACES), 20);
        }
    }

    /** Promise 3: "a text, which replaces everything; the undo history and the snapshot are discarded". */
    static void p3ATextReplacesEverything() {
        SightReducer x = taken("body new 5 6;", 0);
        int[] due = {1, 0, 0, 0, 0, 0, 0, 0, 0};
        for (int what = 0; what <= 8; what++) {
            Checks.due("told " + what, x.told(what), due[what]);
        }
        Checks.due("declination", x.body(0, 0), 5);
        Checks.due("history", x.undoCount(), 0);
        Checks.due("undo", x.undo(), NONE);
        Checks.due("snapshot", x.restoreSnapshot(), false);
        Checks.due("the old name is free again", Checks.load(x, "body old 0 0;"), 0);
    }

    /** Promise 3: "Returns the number of sights": 0, 1 and 12. */
    static void p3TheNumberOfSights() {
        taken("", 0);
        taken("body a 0 0;", 0);
        taken("body a 0 0;sight a 0 300;", 1);
        taken("body a 0 0;" + SIGHTS, 12);
    }

    /** Promise 3: the full tables, 6 bodies, 8 legs and 12 sights, in one text of less than 700 bytes. */
    static void p3TheFullTables() {
        SightReducer x = taken(BODIES + LEGS + SIGHTS, 12);
        Checks.due("bodies", x.told(0), 6);
        Checks.due("legs", x.told(1), 8);
        Checks.due("a 13th sight", x.observe(0, 0, 300), -2);
        Checks.due("a 9th leg", x.steer(5000, 0, 0), -2);
    }

    // ---- Promise 4 ----

    /** Promise 4: "NONE if that text had no error, or if there was no such call". */
    static void p4NoErrorAndNoCall() {
        SightReducer x = new SightReducer();
        Checks.due("no call", x.errorPosition(), NONE);
        Checks.load(x, "eye 51;");
        Checks.due("an error", x.errorPosition(), 4);
        x.load(0);
        Checks.due("no error", x.errorPosition(), NONE);
    }

    /** Promise 4: "the most recent call of load or query": each of both after each of both. */
    static void p4TheMostRecentOfBoth() {
        SightReducer x = new SightReducer();
        Checks.load(x, "eye 51;");
        Checks.query(x, "many time");
        Checks.due("a wrong query after a wrong text", x.errorPosition(), 9);
        Checks.load(x, "  eye 51;");
        Checks.due("a wrong text after a wrong query", x.errorPosition(), 6);
        Checks.query(x, "many 1=1");
        Checks.due("a right query after a wrong text", x.errorPosition(), NONE);
        Checks.query(x, "many time");
        Checks.load(x, "eye 5;");
        Checks.due("a right text after a wrong query", x.errorPosition(), NONE);
    }

    /** Promise 4: "that read the buffer": calls that were refused, and all others, leave the position. */
    static void p4CallsThatDoNotRead() {
        SightReducer x = used();
        Checks.load(x, "   eye 51;");
        Checks.illegal("load", () -> x.load(1));
        Checks.illegal("load", () -> x.load(-1));
        Checks.illegal("query", () -> x.query(1));
        Checks.illegal("query", () -> x.query(-1));
        Checks.illegal("query", () -> x.query(201));
        x.feed(SPACES, SPACES, SPACES, SPACES, SPACES);
        x.observe(0, 0, 300);
        x.undo();
        x.saveSnapshot();
        x.restoreSnapshot();
        x.format(0);
        Checks.due("still", x.errorPosition(), 7);
    }

    /** Promise 4: "the position of the first byte of the token": of a long word, a long number and a sign. */
    static void p4TheFirstByteOfTheToken() {
        refused("eye 5; indexing 3;", 1, 7);
        refused("eye\n\n  000051 ;", 2, 7);
        refused("eye 5 ,,;", 1, 6);
        refused("?", 1, 0);
    }

    // ---- Tokens ----

    /** Input text: "every other byte except space (32) and line feed (10) is a token by itself", for each byte. */
    static void p3EachByteAlone() {
        for (int value = 0; value < 256; value++) {
            SightReducer x = new SightReducer();
            x.feed(value << 24, 0, 0, 0, 0);
            boolean isBlank = value == 32 || value == 10;
            Checks.due("byte " + value, x.load(1), isBlank ? 0 : -11);
            Checks.due("position of byte " + value, x.errorPosition(), isBlank ? NONE : 0);
        }
    }

    /** Input text: "a word is a maximal run of the letters 'a' to 'z'": the signs beside them end it. */
    static void p3TheEndsOfTheLetters() {
        Checks.due("letters of the name", taken("body az 0 0;", 0).body(0, 2), 2);
        for (char sign : new char[] {'`', '{', 'A', 'Z', '_', (char) 225, (char) 250}) {
            refused("body a" + sign + " 0 0;", 1, 6);
            refused("body " + sign + "a 0 0;", 1, 5);
        }
    }

    /** Input text: "a number is a maximal run of decimal digits": the signs beside them end it. */
    static void p3TheEndsOfTheDigits() {
        Checks.due("latitude", taken("start 0 9;", 0).told(4), 9);
        Checks.due("longitude", taken("start 9 0;", 0).told(3), 9);
        for (char sign : new char[] {'/', ':', '.', '+', (char) 178}) {
            refused("eye 1" + sign + ";", 1, 5);
            refused("eye " + sign + "1;", 1, 4);
        }
    }

    /** Input text: "maximal run": a word or number ends only where another token or a blank begins. */
    static void p3RunsAreMaximal() {
        Checks.due("a word beside a number", taken("eye5;", 0).told(5), 5);
        Checks.due("a number beside a word", taken("body a1 2;", 0).body(0, 0), 1);
        Checks.due("signs beside numbers", taken("start-1-2;", 0).told(4), -2);
        refused("eyes 5;", 1, 0);
        refused("ey e 5;", 1, 0);
        refused("eye 1 2;", 1, 6);
        refused("current 12;", 1, 10);
        refused("current 1 2 3;", 1, 12);
    }

    /** Input text: "Spaces and line feeds may appear between tokens": none, one and many of them, also at both ends. */
    static void p3BlanksBetweenTokens() {
        taken(" ", 0);
        taken("\n", 0);
        taken("\n \n", 0);
        Checks.due("eye", taken("\n eye \n\n 5 \n ; \n", 0).told(5), 5);
        Checks.due("index error", taken("index\n-\n7;", 0).told(6), -7);
        Checks.due("two clauses", taken("eye 5;index 7;eye 6;", 0).told(5), 6);
        refused("\teye 5;", 1, 0);
        refused("eye\r5;", 1, 3);
        refused("eye 5;\0", 1, 6);
    }

    // ---- Ranges ----

    private static void number(String before, String after, int least, int most, ToIntFunction<SightReducer> told) {
        int[] right = {least, least + 1, most - 1, most};
        for (int value : right) {
            Checks.due("told", told.applyAsInt(taken(before + value + after, sights(before))), value);
            String zeros = "0".repeat(40);
            Checks.due("with zeros", told.applyAsInt(taken(before + zeros + value + after, sights(before))), value);
        }
        if (least > 0) {
            refused(before + (least - 1) + after, 2, before.length());
        }
        refused(before + "-" + least + after, 1, before.length());
        tooGreat(before, after, most);
    }

    private static void tooGreat(String before, String after, int most) {
        String[] wrong = {String.valueOf(most + 1), "99999", "1000000", "2147483648", "4294967296", "4294967301",
            "18446744073709551616", "18446744073709551621", "9".repeat(50), "0".repeat(50) + (most + 1)};
        for (String value : wrong) {
            refused(before + value + after, 2, before.length());
        }
    }

    private static void signed(String before, String after, int most, ToIntFunction<SightReducer> told) {
        for (int value : new int[] {-most, -most + 1, -1, 0, 1, most - 1, most}) {
            Checks.due("told", told.applyAsInt(taken(before + value + after, 0)), value);
        }
        Checks.due("minus 0", told.applyAsInt(taken(before + "-0" + after, 0)), 0);
        Checks.due("with zeros", told.applyAsInt(taken(before + "- 00000000000000000007" + after, 0)), -7);
        tooGreat(before, after, most);
        tooGreat(before + "-", after, most);
        refused(before + "--1" + after, 1, before.length() + 1);
        refused(before + "+1" + after, 1, before.length());
    }

    private static final String SIGHT = "body a 0 0;sight a ";

    private static int sights(String before) {
        return before.startsWith(SIGHT) ? 1 : 0;
    }

    /** Input text: "'start' ['-'] latitude (0 to 3600) ['-'] longitude (0 to 10799)". */
    static void p3RangesOfStart() {
        signed("start ", " 0;", 3600, x -> x.told(3));
        signed("start 0 ", ";", 10799, x -> x.told(4));
        signed("start -3600 ", ";", 10799, x -> x.told(4));
    }

    /** Input text: "'eye' h", 0 to 50, without a minus. */
    static void p3RangesOfEye() {
        number("eye ", ";", 0, 50, x -> x.told(5));
    }

    /** Input text: "'index' ['-'] i (0 to 60)". */
    static void p3RangesOfIndex() {
        signed("index ", ";", 60, x -> x.told(6));
    }

    /** Input text: "'current' set drift", 0 to 21599 and 0 to 100, without a minus. */
    static void p3RangesOfCurrent() {
        number("current ", " 1;", 0, 21599, x -> x.told(7));
        number("current 1 ", ";", 0, 100, x -> x.told(8));
    }

    /** Input text: "'body' NAME ['-'] declination (0 to 3600) angle", where the angle is 0 to 21599. */
    static void p3RangesOfBody() {
        signed("body a ", " 1;", 3600, x -> x.body(0, 0));
        number("body a 1 ", ";", 0, 21599, x -> x.body(0, 1));
    }

    /** Input text: "'leg' time course speed", 0 to 5000, 0 to 21599 and 0 to 400. */
    static void p3RangesOfLeg() {
        number("leg ", " 1 1;", 0, 5000, x -> x.leg(0, 0));
        number("leg 1 ", " 1;", 0, 21599, x -> x.leg(0, 1));
        number("leg 1 1 ", ";", 0, 400, x -> x.leg(0, 2));
    }

    /** Input text: "'sight' BODY time altitude", 0 to 5000 and 300 to 5100. */
    static void p3RangesOfSight() {
        number(SIGHT, " 400;", 0, 5000, x -> x.sight(0, 1));
        number(SIGHT + "1 ", ";", 300, 5100, x -> x.sight(0, 2));
        refused(SIGHT + "1 0;", 2, 21);
    }

    // ---- Names ----

    /** Input text: "A NAME is a word of 1 to 8 letters"; "1: ... (also a word of more than 8 letters as a NAME)". */
    static void p3TheLengthsOfNames() {
        Checks.due("1 letter", taken("body a 0 0;", 0).body(0, 2), 1);
        Checks.due("8 letters", taken("body abcdefgh 0 0;", 0).body(0, 2), 8);
        refused("body abcdefghi 0 0;", 1, 5);
        refused("body " + "a".repeat(200) + " 0 0;", 1, 5);
        refused("body  0 0;", 1, 6);
    }

    /** Input text: "that is not the name of an earlier body"; "4: a NAME that is used already". */
    static void p3NamesThatAreUsed() {
        refused("body a 0 0;body a 0 0;", 4, 16);
        refused("body a 0 0;body b 0 0;body a 0 0;", 4, 27);
        refused("body a 0 0;body b 0 0;body b 0 0;", 4, 27);
        refused("body abcdefgh 0 0;body abcdefgh 0 0;", 4, 23);
        Checks.due("bodies", taken("body abcdefgh 0 0;body abcdefgi 0 0;body abcdefg 0 0;body bbcdefgh 0 0;", 0).told(0), 4);
        Checks.due("the name of a body of the text before", taken("body old 0 0;", 0).told(0), 1);
        String keywords = "body body 0 0;body sight 0 0;sight sight 0 300;sight body 0 300;";
        Checks.due("the names of keywords", taken(keywords, 2).told(0), 2);
    }

    /** Input text: "a BODY is the name of an earlier body"; "4: ... a word as BODY that is no name of a body". */
    static void p3NamesOfNoBody() {
        Checks.due("the earlier body", taken("body a 0 0;body b 0 0;sight b 0 300;", 1).sight(0, 0), 1);
        refused("sight a 0 300;", 4, 6);
        refused("sight a 0 300;body a 0 0;", 4, 6);
        refused("body a 0 0;sight aa 0 300;", 4, 17);
        refused("body aa 0 0;sight a 0 300;", 4, 18);
        refused("body abcdefgh 0 0;sight abcdefgi 0 300;", 4, 24);
        refused("body abcdefgh 0 0;sight abcdefghi 0 300;", 4, 24);
        refused("sight old 0 300;", 4, 6);
        refused("body a 0 0;sight 7 0 300;", 1, 17);
        refused("body a 0 0;sight -a 0 300;", 1, 17);
    }

    // ---- Clauses ----

    /** Input text: "Without their clauses the start is 0 and 0, the eye 0 and the index error 0". */
    static void p3WithoutTheirClauses() {
        SightReducer x = taken("body a 1 1;leg 1 1 1;sight a 1 301;", 1);
        for (int what = 3; what <= 8; what++) {
            Checks.due("told " + what, x.told(what), 0);
        }
    }

    /** Input text: "if one of 'start', 'eye', 'index' and 'current' is repeated, the last occurrence counts". */
    static void p3TheLastOccurrenceCounts() {
        SightReducer x = taken("start -1 -2;eye 3;index -4;current 5 6;start 11 12;eye 13;index 14;current 15 16;", 0);
        int[] due = {11, 12, 13, 14, 15, 16};
        SightReducer y = taken("current 15 16;index 14;eye 13;start 11 12;start 0 0;eye 0;index 0;current 0 0;", 0);
        SightReducer z = taken("start 1 1;start -3 -4;start -5 6;index -1;index 2;", 0);
        for (int what = 3; what <= 8; what++) {
            Checks.due("told " + what, x.told(what), due[what - 3]);
            Checks.due("told " + what, y.told(what), 0);
        }
        Checks.due("latitude", z.told(3), -5);
        Checks.due("longitude", z.told(4), 6);
        Checks.due("index error", z.told(6), 2);
    }

    /** Input text: "clause*": clauses in any order, as far as they do not need one another. */
    static void p3ClausesInAnyOrder() {
        SightReducer x = taken("leg 5 0 6;body a 0 0;sight a 9 300;eye 3;leg 7 0 6;body b 0 0;sight b 1 300;start 1 2;", 2);
        Checks.due("legs", x.told(1), 2);
        Checks.due("latitude", x.reckoned(0, false), 1);
        Checks.due("eye for an earlier sight", x.sight(0, 3), 297);
    }

    private static final String[] ALL = ("start - 3600 - 10799 ; eye 50 ; index - 60 ; current 21599 100 ; "
            + "body abcdefgh - 3600 21599 ; leg 0 21599 400 ; sight abcdefgh 5000 5100 ;").split(" ");

    private static String first(int tokens) {
        return String.join(" ", java.util.Arrays.copyOf(ALL, tokens));
    }

    /** Input text: "1: ... the text ends too early (the position is then the length of the text)": behind each token. */
    static void p3TheTextEndsTooEarly() {
        for (int tokens = 0; tokens <= ALL.length; tokens++) {
            String text = first(tokens);
            if (tokens == 0 || ALL[tokens - 1].equals(";")) {
                taken(text, tokens == ALL.length ? 1 : 0);
                taken(text + " \n ", tokens == ALL.length ? 1 : 0);
            } else {
                refused(text, 1, text.length());
                refused(text + " \n ", 1, text.length() + 3);
            }
        }
    }

    /** Input text: "1: the token is not allowed here": a strange sign, word and number in the place of each token. */
    static void p3TokensThatAreNotAllowed() {
        for (int tokens = 0; tokens < ALL.length; tokens++) {
            String before = tokens == 0 ? "" : first(tokens) + " ";
            boolean isNumber = Character.isDigit(ALL[tokens].charAt(0));
            boolean isWord = Character.isLetter(ALL[tokens].charAt(0));
            boolean isName = isWord && ALL[tokens].length() == 8;
            refused(before + "? 1 1;", 1, before.length());
            if (!isName) {
                refused(before + "toolonganame 1 1;", 1, before.length());
            }
            if (!isNumber && !ALL[tokens].equals("-")) {
                refused(before + "1 1 1;", 1, before.length());
                refused(before + "99999999999", 1, before.length());
            }
            if (!ALL[tokens].equals(";")) {
                refused(before + ";", 1, before.length());
            }
        }
    }

    /** Input text: a keyword is a keyword with all of its letters, and no more, alone. */
    static void p3KeywordsAndTheirLetters() {
        for (String keyword : new String[] {"start", "eye", "index", "current", "body", "leg", "sight"}) {
            for (int letter = 0; letter < keyword.length(); letter++) {
                String before = keyword.substring(0, letter);
                String behind = keyword.substring(letter + 1);
                refused(before + 'q' + behind + " 1 1;", 1, 0);
                refused(before + (char) (keyword.charAt(letter) - 32) + behind + " 1 1;", 1, 0);
                refused(before + behind + " 1 1;", 1, 0);
            }
            refused(keyword + "s 1 1;", 1, 0);
            refused("s" + keyword + " 1 1;", 1, 0);
        }
    }

    /** Input text: a name is the name of a body with all of its letters alone. */
    static void p3NamesAndTheirLetters() {
        for (String name : new String[] {"x", "vega", "polarisb"}) {
            String body = "body " + name + " 0 0;sight ";
            for (int letter = 0; letter < name.length(); letter++) {
                String other = name.substring(0, letter) + 'q' + name.substring(letter + 1);
                refused(body + other + " 0 300;", 4, body.length());
            }
            refused(body + name + "q 0 300;", 4, body.length());
            refused(body + "q" + name + " 0 300;", 4, body.length());
        }
    }

    /** Input text: the empty clause is none. */
    static void p3NoEmptyClause() {
        refused(";", 1, 0);
        refused("eye 5;;", 1, 6);
        refused("eye 5; ;eye 6;", 1, 7);
    }

    // ---- Error codes ----

    /** Input text: "3: the keyword of the 7th body". */
    static void p3TheSeventhBody() {
        taken(BODIES, 0);
        refused(BODIES + "body g 0 0;", 3, BODIES.length());
        refused(BODIES + "  body", 3, BODIES.length() + 2);
        refused(BODIES + "body a", 3, BODIES.length());
        refused(BODIES + "body toolonganame", 3, BODIES.length());
    }

    /** Input text: "3: ... the 9th leg". */
    static void p3TheNinthLeg() {
        taken(LEGS, 0);
        refused(LEGS + "leg 8 0 0;", 3, LEGS.length());
        refused(LEGS + "\nleg", 3, LEGS.length() + 1);
        refused(LEGS + "leg 0 0 0;", 3, LEGS.length());
        refused(LEGS + "leg 99999", 3, LEGS.length());
    }

    /** Input text: "3: ... the 13th sight". */
    static void p3TheThirteenthSight() {
        String text = "body a 0 0;" + SIGHTS;
        taken(text, 12);
        refused(text + "sight a 0 300;", 3, text.length());
        refused(text + "   sight", 3, text.length() + 3);
        refused(text + "sight nobody 0 300;", 3, text.length());
    }

    /** Input text: "5: the time of a leg that is not greater than that of the leg before". */
    static void p3TheTimeOfALeg() {
        taken("leg 0 0 0;", 0);
        taken("leg 0 0 0;leg 1 0 0;", 0);
        taken("leg 4999 0 0;leg 5000 0 0;", 0);
        refused("leg 0 0 0;leg 0 0 0;", 5, 14);
        refused("leg 7 0 0;leg 7 0 0;", 5, 14);
        refused("leg 7 0 0;leg 6 0 0;", 5, 14);
        refused("leg 7 0 0;leg 0 0 0;", 5, 14);
        refused("leg 5000 0 0;leg 5000 0 0;", 5, 17);
        refused("leg 1 0 0;leg 9 0 0;leg 5 0 0;", 5, 24);
    }

    /** Input text: "If several codes apply to one token, the smallest one counts". */
    static void p3TheSmallestCodeCounts() {
        refused("eye 5 99999;", 1, 6);
        refused("99999 5;", 1, 0);
        refused("leg 5000 0 0;leg 5001 0 0;", 2, 17);
        refused(BODIES + "eye body g 0 0;", 1, BODIES.length() + 4);
        refused(LEGS + "eye leg 8 0 0;", 1, LEGS.length() + 4);
        refused("body a 0 0;" + SIGHTS + "eye sight a 0 300;", 1, 11 + SIGHTS.length() + 4);
        refused("body a 0 0;eye a;", 1, 15);
        refused("body a 0 0;body 0 0;", 1, 16);
        refused("leg 5 0 0;leg -5 0 0;", 1, 14);
    }

    /** Input text: "checked token by token, and the first token with an error determines the result". */
    static void p3TheFirstTokenWithAnErrorCounts() {
        refused("eye 51 ?", 2, 4);
        refused("? eye 51;", 1, 0);
        refused("leg 5 0 0;leg 5 21600 401", 5, 14);
        refused("leg 5 0 0;leg 6 21600 401", 2, 16);
        refused("body a 0 0;body a 3601 21600?", 4, 16);
        refused("body a 3601 0;body a 0 0;", 2, 7);
        refused("sight a 5001 299;", 4, 6);
        refused("body a 0 0;sight a 5001 299;", 2, 19);
        refused("current 21600 101;", 2, 8);
        refused("start 3601 10800;", 2, 6);
        refused("eye 51;" + BODIES + "body g 0 0;", 2, 4);
    }

    /** Promise 3: "-10 minus the error code": each of the five codes. */
    static void p3EachErrorCode() {
        SightReducer x = new SightReducer();
        Checks.due("1", Checks.load(x, "eye ;"), -11);
        Checks.due("2", Checks.load(x, "eye 51;"), -12);
        Checks.due("3", Checks.load(x, LEGS + "leg 8 0 0;"), -13);
        Checks.due("4", Checks.load(x, "sight a 0 300;"), -14);
        Checks.due("5", Checks.load(x, "leg 1 0 0;leg 1 0 0;"), -15);
    }
}
