import java.io.File;
import java.io.IOException;
import java.nio.file.Files;
import java.nio.file.Path;
import java.util.regex.Matcher;
import java.util.regex.Pattern;

/** README.md: what it says that each call answers, and the tests that it names. */
public final class ReadmeTest {
    private static final Pattern CALL = Pattern.compile("shades\\.(\\w+)\\(([^)]*)\\);\\s+// (-?\\d+): .*");

    public static void main(String[] arguments) throws IOException {
        String readme = Files.readString(Path.of("README.md"));
        callsOf(readme);
        testsOf(readme);
        Check.end();
    }

    private static void callsOf(String readme) {
        Used shades = new Used();
        int calls = 0;
        for (String line : readme.split("\n")) {
            if (line.startsWith("shades.")) {
                Matcher matcher = CALL.matcher(line);
                Check.holds(line + " says what it answers: that", matcher.matches());
                String call = matcher.group(1) + "(" + numbers(matcher.group(2)) + ")";
                Check.due(line, shades.answerTo(call), Integer.parseInt(matcher.group(3)));
                calls++;
            }
        }
        Check.holds("that README.md does calls", calls > 0);
    }

    /** A sign in quotes stands for its number. */
    private static String numbers(String inParentheses) {
        boolean isSign = inParentheses.matches("'.'");
        return isSign ? String.valueOf((int) inParentheses.charAt(1)) : inParentheses;
    }

    private static void testsOf(String readme) {
        for (String file : new File("src/test/java").list()) {
            if (file.endsWith("Test.java")) {
                String test = file.substring(0, file.length() - ".java".length());
                Check.holds("that README.md names " + test, readme.contains("`" + test + "`"));
            }
        }
        Matcher named = Pattern.compile("`(\\w+Test)`").matcher(readme);
        while (named.find()) {
            boolean isThere = Files.exists(Path.of("src/test/java", named.group(1) + ".java"));
            Check.holds("that there is the test " + named.group(1), isThere);
        }
    }
}
