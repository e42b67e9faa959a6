/** The edges that "Input text" names for queries, with promises 36 (query) and 4 (errorPosition). */
public final class QueryTest {
    private static final int NONE = SightReducer.NONE;
    private static final int HIDDEN = SightReducer.HIDDEN;
    private static final String SEA = "body north 3600 0;body east 0 18000;body south -3600 0;body west 0 3600;";

    public static void main(String[] args) throws Exception {
        Checks.runAll(QueryTest.class);
    }

    /** Intercepts 5, 3, -100 and 1 of north, east, south and west; the last sight is of the minute 9. */
    private static SightReducer four() {
        return Checks.loaded(SEA + "sight north 0 1806;sight east 0 1804;sight south 0 1701;sight west 9 1667;");
    }

    private static SightReducer used() {
        SightReducer x = four();
        x.format(0);
        x.correct(1, 1);
        x.saveSnapshot();
        x.correct(0, 0);
        return x;
    }

    /** Sights for which a test holds, as a text such as 0.2. of the four, found by the other answers of query. */
    private static void holds(String test, String due) {
        SightReducer x = four();
        StringBuilder found = new StringBuilder();
        int many = 0;
        for (int sight = 0; sight < 4; sight++) {
            boolean holds = Checks.query(x, "first sight=" + sight + " and (" + test + ")") == sight;
            many += holds ? 1 : 0;
            found.append(holds ? (char) ('0' + sight) : '.');
        }
        Checks.due(test, found.toString(), due);
        Checks.due("many " + test, Checks.query(x, "many " + test), many);
        Checks.due("first " + test, Checks.query(x, "first " + test), NONE + 1 + first(due));
        Checks.due("no error in " + test, x.errorPosition(), NONE);
    }

    private static int first(String due) {
        for (int sight = 0; sight < due.length(); sight++) {
            if (due.charAt(sight) != '.') {
                return sight;
            }
        }
        return NONE;
    }

    private static void refused(String text, int code, int position) {
        SightReducer x = used();
        Checks.due(text, Checks.query(x, text), HIDDEN - code);
        Checks.due("position in " + text, x.errorPosition(), position);
        Checks.illegal("the buffer after " + text, () -> x.load(1));
        Checks.due("all else after " + text, Checks.everything(x) + x.undo() + x.undo(),
                Checks.everything(used()) + "10");
        Checks.due("the snapshot after " + text, x.restoreSnapshot(), true);
    }

    // ---- Length and buffer ----

    /** Promise 36: "if length is negative, greater than 200, or greater than the number of bytes in the buffer". */
    static void p36LengthsThatAreRefused() {
        SightReducer x = used();
        Checks.illegal("1 of none", () -> x.query(1));
        Checks.feed(x, "many sight<3");
        for (int length : new int[] {-1, 21, 200, 201, Integer.MIN_VALUE, Integer.MAX_VALUE}) {
            Checks.illegal("length " + length, () -> x.query(length));
        }
        Checks.feed(x, " ".repeat(200));
        for (int length : new int[] {201, 220, 221}) {
            Checks.illegal("length " + length, () -> x.query(length));
        }
    }

    /** Promise 36: "(nothing changes)": the buffer, the error position and all else stay. */
    static void p36ARefusedLengthChangesNothing() {
        SightReducer x = used();
        Checks.query(x, "many 100000=1");
        Checks.feed(x, "many sight<3" + " ".repeat(208));
        Checks.illegal("too long", () -> x.query(201));
        Checks.illegal("below 0", () -> x.query(-1));
        Checks.due("the error position", x.errorPosition(), 5);
        Checks.due("all else", Checks.everything(x), Checks.everything(used()));
        Checks.due("the history", x.undoCount(), 2);
        Checks.due("the buffer", x.query(12), 3);
    }

    /** Promise 36: "length: number of bytes to read, at most 200": 200 of 200 and of 220, and the longest test. */
    static void p36TwoHundredBytes() {
        SightReducer x = four();
        String longest = "many sight=0" + " or sight=1".repeat(17) + " ";
        Checks.due("bytes", longest.length(), 200);
        Checks.due("200 of 200", Checks.query(x, longest), 2);
        Checks.feed(x, longest + "sight sight sight ");
        Checks.due("200 of 220", x.query(200), 2);
        Checks.feed(x, "many sight=0" + " or sight=1".repeat(16) + " or sight<12");
        Checks.due("the number is cut", x.query(199), 2);
    }

    /** Promise 36: "Reads the first bytes of the buffer": those behind them are no part of the query. */
    static void p36OnlyTheFirstBytes() {
        SightReducer x = four();
        Checks.feed(x, "many 1=1 or");
        Checks.due("up to the test's end", x.query(8), 4);
        Checks.feed(x, "many sight<30");
        Checks.due("up to a digit", x.query(12), 3);
        Checks.feed(x, "many 1=1");
        Checks.due("nothing", x.query(0), HIDDEN - 1);
        Checks.due("the text ends at once", x.errorPosition(), 0);
    }

    /** Promise 36: "The buffer is empty afterwards, also after an error". */
    static void p36TheBufferIsEmptyAfterwards() {
        for (String text : new String[] {"many 1=1" + " ".repeat(50), "many 1=!" + " ".repeat(50)}) {
            SightReducer x = four();
            Checks.feed(x, text);
            x.query(8);
            Checks.illegal("load", () -> x.load(1));
            Checks.illegal("query", () -> x.query(1));
            Checks.due("bytes", x.feed(0, 0, 0, 0, 0), 20);
        }
    }

    /** Promise 36: a query tells and changes nothing but the buffer and the error position. */
    static void p36AQueryChangesNothingElse() {
        SightReducer x = used();
        Checks.query(x, "many away<6 and not expected=1800");
        Checks.query(x, "first 1=2");
        Checks.due("everything", Checks.everything(x), Checks.everything(used()));
        Checks.due("history", x.undoCount(), 2);
        Checks.due("snapshot", x.restoreSnapshot(), true);
    }

    // ---- Answers ----

    /** Promise 36: "for 'many' the number of sights ...; for 'first' the smallest such sight, or NONE": no sights. */
    static void p36NoSights() {
        SightReducer x = new SightReducer();
        Checks.due("many", Checks.query(x, "many 1=1"), 0);
        Checks.due("many not", Checks.query(x, "many not 1=2"), 0);
        Checks.due("first", Checks.query(x, "first 1=1"), NONE);
        Checks.due("first not", Checks.query(x, "first not 1=2"), NONE);
        Checks.due("an error all the same", Checks.query(x, "first 1=100000"), HIDDEN - 2);
    }

    /** Promise 36: none, one and all of 12 sights, the first and the last of them. */
    static void p36TwelveSights() {
        SightReducer x = Checks.loaded("body a 0 0;" + "sight a 0 300;".repeat(12));
        int[][] due = {{12, 0}, {0, NONE}, {1, 11}, {11, 0}, {1, 0}, {11, 1}};
        String[] tests = {"sight<12", "sight>11", "sight>10", "not sight=11", "sight<1", "not sight=0"};
        for (int test = 0; test < tests.length; test++) {
            Checks.due("many " + tests[test], Checks.query(x, "many " + tests[test]), due[test][0]);
            Checks.due("first " + tests[test], Checks.query(x, "first " + tests[test]), due[test][1]);
        }
    }

    /** Input text: "value ('<' | '=' | '>') value": less, the same and more for each of the three. */
    static void p36TheThreeComparisons() {
        holds("sight<2", "01..");
        holds("sight=2", "..2.");
        holds("sight>2", "...3");
        holds("2<sight", "...3");
        holds("2=sight", "..2.");
        holds("2>sight", "01..");
        holds("sight<sight", "....");
        holds("sight=sight", "0123");
        holds("sight>sight", "....");
        holds("1<1 or 2<1", "....");
        holds("1>1 or 1>2", "....");
        holds("0<1 and 1>0 and 0=0", "0123");
    }

    /** Input text: "'sight' (its number), 'body', 'time'". */
    static void p36SightBodyAndTime() {
        holds("sight=0", "0...");
        holds("sight=3", "...3");
        holds("body=0", "0...");
        holds("body>2", "...3");
        holds("time=0", "012.");
        holds("time=9", "...3");
        holds("time<9", "012.");
        holds("time>8", "...3");
        holds("body=sight", "0123");
    }

    /** Input text: "'altitude' (observed)", neither the sextant's nor the apparent one. */
    static void p36TheObservedAltitude() {
        holds("altitude=1805", "0...");
        holds("altitude=1806", "....");
        holds("altitude=1700", "..2.");
        holds("altitude>1803", "0...");
        holds("altitude<1700", "...3");
    }

    /** Input text: "'expected'", which may be below 0, as no number of a query can be. */
    static void p36TheExpectedAltitude() {
        holds("expected=1800", "012.");
        holds("expected<1800", "...3");
        holds("altitude<expected", "..2.");
        SightReducer x = Checks.loaded("body a 0 10801;body b 0 16200;sight a 0 300;sight b 0 300;");
        Checks.due("expected", x.sight(0, 5), -5399);
        Checks.due("below 0", Checks.query(x, "many expected<0"), 1);
        Checks.due("just 0", Checks.query(x, "first expected=0"), 1);
        Checks.due("below a property", Checks.query(x, "first expected<sight"), 0);
    }

    /** Input text: "'azimuth'": 0 and the greatest here. */
    static void p36TheAzimuth() {
        holds("azimuth=0", "0...");
        holds("azimuth<1", "0...");
        holds("azimuth=5400", ".1..");
        holds("azimuth=10800", "..2.");
        holds("azimuth>10800", "...3");
    }

    /** Input text: "'away' (the absolute value of the intercept)". */
    static void p36TheAbsoluteValueOfTheIntercept() {
        holds("away=5", "0...");
        holds("away=100", "..2.");
        holds("away<5", ".1.3");
        holds("away<0", "....");
        SightReducer x = Checks.loaded(SEA + "sight north 0 1800;sight north 0 1801;sight north 0 1802;");
        Checks.due("-1 and 1", Checks.query(x, "many away=1"), 2);
        Checks.due("0", Checks.query(x, "first away=0"), 1);
    }

    /** Input text: "a number from 0 to 99999", with leading zeros. */
    static void p36TheEndsOfTheNumbers() {
        holds("sight<99999", "0123");
        holds("99999>sight", "0123");
        holds("sight>0", ".123");
        holds("sight=00000000000000000000000000000000000000003", "...3");
        holds("99999=099999", "0123");
        refused("many 100000=1", 2, 5);
        refused("many sight<100000", 2, 11);
        refused("many sight<2147483648", 2, 11);
        refused("many sight<4294967296", 2, 11);
        refused("many sight<18446744073709551617", 2, 11);
        refused("many 000000100000=1", 2, 5);
        refused("many -1=1", 1, 5);
        refused("many sight>-1", 1, 11);
    }

    /** Input text: "conjunction ('or' conjunction)*", "factor ('and' factor)*", "'not' factor": which binds closer. */
    static void p36WhatBindsCloser() {
        holds("sight=0 or sight=1 and sight=2", "0...");
        holds("sight=1 and sight=2 or sight=0", "0...");
        holds("(sight=0 or sight=1) and sight=1", ".1..");
        holds("not sight=0 and sight=0", "....");
        holds("not sight=0 or sight=0", "0123");
        holds("not (sight=0 or sight=1)", "..23");
        holds("not sight=0 or sight=1", ".123");
        holds("not not sight=0", "0...");
        holds("sight=0 or sight=1 or sight=3", "01.3");
        holds("sight<3 and sight>0 and not sight=1", "..2.");
    }

    // ---- Nesting ----

    /** Input text: "3: ... a 'not' or '(' that would be the seventh one open at the same time": six of one kind. */
    static void p36SixAreOpen() {
        holds("not not not not not sight=0", ".123");
        SightReducer x = four();
        Checks.due("six nots", Checks.query(x, "many not not not not not not sight=0"), 1);
        Checks.due("six parentheses", Checks.query(x, "many ((((((sight=0))))))"), 1);
        Checks.due("three of each", Checks.query(x, "many not(not(not(sight=0)))"), 3);
        Checks.due("parentheses, then nots", Checks.query(x, "many (((not not not sight=0)))"), 3);
    }

    /** Input text: "would be the seventh one open at the same time": seven of one kind and of both. */
    static void p36TheSeventhIsRefused() {
        refused("many not not not not not not not sight=0", 3, 29);
        refused("many (((((((sight=0)))))))", 3, 11);
        refused("many ((((((not sight=0))))))", 3, 11);
        refused("many not not not not not not (sight=0)", 3, 29);
        refused("many not(not(not(not sight=0)))", 3, 17);
        refused("many not(not(not((sight=0))))", 3, 17);
        refused("many ((((((sight=0 and not sight=1))))))", 3, 23);
        refused("many ((((((sight=0 or (sight=1)))))))", 3, 22);
        refused("many (((((((", 3, 11);
        refused("many not not not not not not not", 3, 29);
    }

    /** Input text: "A 'not' is open until the end of its factor": behind it, the next one may open. */
    static void p36ANotEndsWithItsFactor() {
        SightReducer x = four();
        String six = "not not not not not not sight=0";
        Checks.due("and", Checks.query(x, "many " + six + " and " + six), 1);
        Checks.due("or", Checks.query(x, "many " + six + " or " + six), 1);
        Checks.due("in five", Checks.query(x, "many (((((not sight=0 and (sight=1))))))"), 1);
        Checks.due("in five", Checks.query(x, "many (((((not sight=0 and not sight=1)))))"), 2);
        refused("many (((((not not sight=0)))))", 3, 14);
        refused("many (((((not (sight=0))))))", 3, 14);
    }

    /** Input text: a 'not' before a '(' is open until that one is closed, for the '(' is in its factor. */
    static void p36ANotIsOpenInItsParentheses() {
        SightReducer x = four();
        Checks.due("six", Checks.query(x, "many not (not (not (sight=0) and sight<3))"), 2);
        Checks.due("six side by side", Checks.query(x, "many not (not (not (sight=0) or not (sight=1)))"), 4);
        refused("many not (not (not (sight=0 and not sight=0)))", 3, 32);
        refused("many not (not (not (sight=0 and (sight=0))))", 3, 32);
    }

    /** Input text: a '(' is open until its ')': behind it, the next one may open. */
    static void p36AParenthesisEndsWhereItIsClosed() {
        SightReducer x = four();
        Checks.due("or", Checks.query(x, "many ((((((sight=0)))))) or ((((((sight=1))))))"), 2);
        Checks.due("two closed, two opened", Checks.query(x, "many ((((((sight=0)) or ((sight=1))))))"), 2);
        refused("many ((((((sight=0)) or (((sight=1))))))", 3, 26);
        refused("many ((((((sight=0))))))  and (((((((", 3, 36);
    }

    // ---- Error codes ----

    private static final String[] ALL = "many not ( sight < 3 and ( body = 1 or 99999 > away ) )".split(" ");

    private static String firstTokens(int tokens) {
        return String.join(" ", java.util.Arrays.copyOf(ALL, tokens));
    }

    /** Input text: "1: ... the text ends too early (the position is then the length of the text)": behind each token. */
    static void p36TheTextEndsTooEarly() {
        Checks.due("the whole text", Checks.query(four(), firstTokens(ALL.length)), 1);
        for (int tokens = 0; tokens < ALL.length; tokens++) {
            String text = firstTokens(tokens);
            refused(text, 1, text.length());
            refused(text + " \n ", 1, text.length() + 3);
        }
    }

    /** Input text: "1: the token is not allowed here": a strange sign, word and keyword in the place of each token. */
    static void p36TokensThatAreNotAllowed() {
        for (int tokens = 0; tokens <= ALL.length; tokens++) {
            String before = tokens == 0 ? "" : firstTokens(tokens) + " ";
            for (String wrong : new String[] {"?", "foo", "toolonganame", "many", ";", "-", "N"}) {
                boolean isMany = tokens == 0 && wrong.equals("many");
                refused(before + wrong, 1, isMany ? 4 : before.length());
            }
        }
    }

    /** Input text: "query: ('many' | 'first') test": what else may not be the first word. */
    static void p36TheFirstWord() {
        refused("", 1, 0);
        refused("   ", 1, 3);
        refused("1=1", 1, 0);
        refused("not 1=1", 1, 0);
        refused("Many 1=1", 1, 0);
        refused("man y 1=1", 1, 0);
        refused("manyfirst 1=1", 1, 0);
        refused("many first 1=1", 1, 5);
        Checks.due("no blank", Checks.query(four(), "many1=1"), 4);
        Checks.due("blanks before", Checks.query(four(), "\n first\n1 = 1 \n"), 0);
    }

    /** Input text: a keyword is a keyword with all of its letters, and no more, alone. */
    static void p36KeywordsAndTheirLetters() {
        String[] texts = {"|many| 1=1", "|first| 1=1", "many |not| 1=1", "many 1=1 |and| 1=1", "many 1=1 |or| 1=1",
            "many |sight|=1", "many |body|=1", "many |time|=1", "many |altitude|=1", "many |expected|=1", "many |azimuth|=1",
            "many 1=|away|"};
        for (String text : texts) {
            String[] parts = text.split("\\|", 3);
            String keyword = parts[1];
            for (int letter = 0; letter < keyword.length(); letter++) {
                String other = keyword.substring(0, letter) + 'q' + keyword.substring(letter + 1);
                refused(parts[0] + other + parts[2], 1, parts[0].length());
            }
            refused(parts[0] + keyword + "q" + parts[2], 1, parts[0].length());
            refused(parts[0] + "q" + keyword + parts[2], 1, parts[0].length());
            refused(parts[0] + keyword.substring(1) + parts[2], 1, parts[0].length());
        }
    }

    /** Input text: the grammar of a test: what is missing, too much or in the wrong place. */
    static void p36WhatTheGrammarRefuses() {
        refused("many sight", 1, 10);
        refused("many sight==0", 1, 11);
        refused("many sight=0=0", 1, 12);
        refused("many sight<=0", 1, 11);
        refused("many =0", 1, 5);
        refused("many or 1=1", 1, 5);
        refused("many 1=1 or", 1, 11);
        refused("many 1=1 or and 1=1", 1, 12);
        refused("many 1=1 1=1", 1, 9);
        refused("many 1=1 not 1=1", 1, 9);
        refused("many 1=1(1=1)", 1, 8);
        refused("many 1=1)", 1, 8);
        refused("many (1=1", 1, 9);
        refused("many ()", 1, 6);
        refused("many (1)=1", 1, 7);
        refused("many 1=(1)", 1, 7);
        refused("many 1=not 1=1", 1, 7);
        refused("many not", 1, 8);
        refused("many not and", 1, 9);
        refused("many body a=1", 1, 10);
        refused("many altitudes=1", 1, 5);
    }

    /** Input text: "If several codes apply to one token, the smallest one counts". */
    static void p36TheSmallestCodeCounts() {
        refused("many 1 100000", 1, 7);
        refused("100000", 1, 0);
        refused("many 1=1 100000", 1, 9);
        refused("many ((((((1(", 1, 12);
        refused("many ((((((1 not", 1, 13);
        refused("many ((((((1=(", 1, 13);
        refused("many ((((((1=1(", 1, 14);
    }

    /** Input text: "checked token by token, and the first token with an error determines the result". */
    static void p36TheFirstTokenWithAnErrorCounts() {
        refused("many 100000=?", 2, 5);
        refused("many ?=100000", 1, 5);
        refused("many (((((((100000", 3, 11);
        refused("many 100000=(((((((", 2, 5);
        refused("many 1=1 or 100000=1 or (((((((1=1", 2, 12);
    }

    /** Promise 36: "HIDDEN minus the error code": 1, 2 and 3; NONE and counts are no such answers. */
    static void p36EachErrorCode() {
        SightReducer x = four();
        Checks.due("1", Checks.query(x, "many"), -1000000001);
        Checks.due("2", Checks.query(x, "many 100000=1"), -1000000002);
        Checks.due("3", Checks.query(x, "many ((((((("), -1000000003);
        Checks.due("none", Checks.query(x, "first 1=2"), -1);
        Checks.due("0", Checks.query(x, "many 1=2"), 0);
    }
}
