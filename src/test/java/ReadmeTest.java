import java.io.IOException;
import java.nio.file.Files;
import java.nio.file.Path;
import java.util.HashMap;
import java.util.Map;
import java.util.regex.Matcher;
import java.util.regex.Pattern;

/** The answers that README.md writes behind the calls of its examples are the ones that the class gives. */
final class ReadmeTest {
    private static final Pattern NEW = Pattern.compile("FadingSheets x = new FadingSheets\\(\\);.*");
    private static final Pattern CALL = Pattern.compile("(?:int (\\w+) = )?x\\.(\\w+)\\(([^)]*)\\); +// (-?\\d+)\\b.*");
    private static final Pattern TEXT = Pattern.compile(
            "for \\(char sign : \"(\\w+)\"\\.toCharArray\\(\\)\\) x\\.append\\(sign\\);");

    private Run run = new Run();
    private final Map<String, String> named = new HashMap<>();
    private int answers;

    public static void main(String[] args) throws IOException {
        ReadmeTest test = new ReadmeTest();
        boolean inside = false;
        for (String line : Files.readAllLines(Path.of("README.md"))) {
            if (line.startsWith("```")) {
                inside = line.equals("```java");
            } else if (inside && !line.isBlank()) {
                test.read(line);
            }
        }
        Check.isTrue("README.md has examples", test.answers > 0);
        Check.end();
    }

    private void read(String line) {
        Matcher call = CALL.matcher(line);
        Matcher text = TEXT.matcher(line);
        if (NEW.matcher(line).matches()) {
            run = new Run();
            named.clear();
        } else if (text.matches()) {
            run.text(text.group(1));
        } else if (call.matches()) {
            run.due(call.group(2) + "(" + told(call.group(3)) + ")", Integer.parseInt(call.group(4)));
            if (call.group(1) != null) {
                named.put(call.group(1), call.group(4));
            }
            answers++;
        } else {
            Check.isTrue("README.md tells an answer in the line " + line, false);
        }
    }

    /** The arguments, with numbers for the names that earlier lines gave. */
    private String told(String arguments) {
        StringBuilder told = new StringBuilder();
        String comma = "";
        for (String argument : arguments.isEmpty() ? new String[0] : arguments.split(", ")) {
            told.append(comma).append(named.getOrDefault(argument, argument).replace("L", ""));
            comma = ", ";
        }
        return told.toString();
    }
}
