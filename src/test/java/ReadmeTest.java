import java.io.IOException;
import java.nio.file.Files;
import java.nio.file.Path;
import java.util.ArrayList;
import java.util.HashMap;
import java.util.List;
import java.util.Map;
import java.util.regex.Matcher;
import java.util.regex.Pattern;

/** Plays the example of README.md: the first word of each remark is what the call answers. */
public final class ReadmeTest {
    private static final Pattern LINE = Pattern.compile(
            "(?:int (\\w+) = )?banks\\.(\\w+)\\((.*)\\);\\s+// (\\w+)(?:: .*)?");

    private static final Check check = new Check("ReadmeTest");

    public static void main(String[] args) throws IOException {
        check.scene("README.md");
        Player player = new Player(new PageBanks());
        Map<String, String> values = new HashMap<>();
        for (String line : example()) {
            Matcher call = LINE.matcher(line);
            if (!call.matches()) {
                check.equal("a line without a call", line, "PageBanks banks = new PageBanks();");
                continue;
            }
            EdgeFile.Row row = new EdgeFile.Row(call.group(2), arguments(call.group(3), values), "");
            String answer = player.play(row);
            check.equal(line, answer.split(" ")[0], call.group(4));
            if (call.group(1) != null) {
                values.put(call.group(1), answer);
            }
        }
        check.end();
    }

    private static List<String> example() throws IOException {
        String text = Files.readString(Path.of("README.md"));
        int start = text.indexOf("```java\n") + "```java\n".length();
        List<String> lines = new ArrayList<>();
        for (String line : text.substring(start, text.indexOf("```", start)).split("\n")) {
            if (!line.isBlank()) {
                lines.add(line);
            }
        }
        return lines;
    }

    private static List<String> arguments(String text, Map<String, String> values) {
        List<String> arguments = new ArrayList<>();
        for (String argument : text.isEmpty() ? new String[0] : text.split(", ")) {
            arguments.add(values.getOrDefault(argument, argument));
        }
        return arguments;
    }
}
