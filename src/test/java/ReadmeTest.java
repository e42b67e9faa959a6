import java.nio.file.Files;
import java.nio.file.Path;
import java.util.LinkedHashMap;
import java.util.Map;
import java.util.regex.Matcher;
import java.util.regex.Pattern;

/** The examples of README.md stand here line by line, and answer what their comments there say. */
public final class ReadmeTest {
    private static final Path README = Path.of("README.md");
    private static final Path THIS = Path.of("src/test/java/ReadmeTest.java");
    private static final Pattern BLOCK = Pattern.compile("(?s)```java\n(.*?)```");
    private static final Pattern ANSWER = Pattern.compile(" *int (\\w+) = x\\..*; // (-?\\w+).*");

    public static void main(String[] args) throws Exception {
        Checks.runAll(ReadmeTest.class);
    }

    static void everyLineOfAnExampleStandsHere() throws Exception {
        String here = Files.readString(THIS);
        for (String line : exampleLines()) {
            String code = line.replaceAll(" *//.*", "").trim();
            Checks.due("here is " + code, here.contains(code), true);
        }
    }

    static void everyExampleAnswersAsItSays() throws Exception {
        Map<String, String> said = new LinkedHashMap<>();
        for (String line : exampleLines()) {
            Matcher matcher = ANSWER.matcher(line);
            if (matcher.matches()) {
                said.put(matcher.group(1), matcher.group(2).replace("NONE", "-1"));
            }
        }
        Checks.due("what the examples answer", answers(), said);
    }

    private static String[] exampleLines() throws Exception {
        StringBuilder lines = new StringBuilder();
        Matcher matcher = BLOCK.matcher(Files.readString(README));
        while (matcher.find()) {
            lines.append(matcher.group(1));
        }
        Checks.due("README.md has examples", lines.length() > 0, true);
        return lines.toString().split("\n");
    }

    static void feedText(SightReducer x, String text) {
        for (int from = 0; from < text.length(); from += 20) {
            int[] fours = new int[5];
            for (int i = 0; i < 20; i++) {
                int sign = from + i < text.length() ? text.charAt(from + i) : ' ';
                fours[i / 4] = fours[i / 4] << 8 | sign;
            }
            x.feed(fours[0], fours[1], fours[2], fours[3], fours[4]);
        }
    }

    /** The examples in their order, and what they answer by the names that they have there. */
    private static Map<String, String> answers() {
        Map<String, String> answers = new LinkedHashMap<>();
        SightReducer x = new SightReducer();
        String text = "start 1200 -600; eye 12; index -3; current 5400 12;"
                + "body sun 0 18000; body vega 2327 4800; body deneb -900 20400;"
                + "leg 0 5400 60; leg 120 0 80;"
                + "sight sun 0 1136; sight vega 30 1322; sight deneb 60 3131;";
        feedText(x, text);
        int sights = x.load(text.length());
        put(answers, "sights", sights);
        int expected = x.sight(0, 5);
        int azimuth = x.sight(0, 6);
        int intercept = x.sight(0, 7);
        put(answers, "expected", expected, "azimuth", azimuth, "intercept", intercept);
        int east = x.crossing(0, 1, 60, false);
        int north = x.crossing(0, 1, 60, true);
        int area = x.hat(0, 1, 2, 60, 0);
        put(answers, "east", east, "north", north, "area", area);
        int fixEast = x.fix(60, false);
        int fixNorth = x.fix(60, true);
        int worst = x.worst(60);
        put(answers, "fixEast", fixEast, "fixNorth", fixNorth, "worst", worst);
        int set = x.unknownCurrent(60, false);
        int drift = x.unknownCurrent(60, true);
        put(answers, "set", set, "drift", drift);
        int length = x.format(1);
        int sign = x.formattedByte(0);
        put(answers, "length", length, "sign", sign);
        Checks.due("what is formatted", Checks.formatted(x), "vega 21'51 z304 t0");
        String query = "many time > 0 and not (away > 2 or body = 0)";
        feedText(x, query);
        int holding = x.query(query.length());
        put(answers, "holding", holding);
        int left = x.drop(1);
        int dip = x.correct(20, 0);
        int undoable = x.undoCount();
        put(answers, "left", left, "dip", dip, "undoable", undoable);
        int still = x.undo();
        int none = x.undo();
        int nothing = x.undo();
        put(answers, "still", still, "none", none, "nothing", nothing);
        return answers;
    }

    private static void put(Map<String, String> answers, Object... namesAndValues) {
        for (int i = 0; i < namesAndValues.length; i += 2) {
            answers.put((String) namesAndValues[i], namesAndValues[i + 1].toString());
        }
    }
}
