import java.io.IOException;
import java.nio.file.Files;
import java.nio.file.Path;
import java.util.ArrayList;
import java.util.List;
import java.util.regex.Matcher;
import java.util.regex.Pattern;

/**
 * A file of edges. A line "> ..." quotes a sentence of the document and starts an edge; the lines
 * behind it are calls with what is due; "new" goes on with a new object; "--" starts a remark.
 * "12 * call" and "7 * {" .. "}" repeat, and "buy(-1|40)" stands for two calls.
 */
final class EdgeFile {
    /** A sentence and the objects that show it, each a run of calls from its making on. */
    record Edge(String sentence, List<List<Row>> objects) {
    }

    /** A call with what is due: "" when any answer will do, as long as the call gives one. */
    record Row(String name, List<String> args, String due) {
        @Override
        public String toString() {
            return name + "(" + String.join(", ", args) + ")";
        }
    }

    private static final Pattern CALL = Pattern.compile("(?:(\\d+) \\* )?(\\w+)\\(([^)]*)\\)\\s*(.*)");
    private static final Pattern BLOCK = Pattern.compile("(\\d+) \\* \\{");

    private final List<Edge> edges = new ArrayList<>();
    private List<List<Row>> objects;
    private List<Row> rows;
    private int blockTimes;
    private int blockStart;

    private EdgeFile() {
    }

    static List<Edge> read(Path path) throws IOException {
        EdgeFile file = new EdgeFile();
        for (String line : Files.readAllLines(path)) {
            file.take(line.replaceFirst("(^|\\s)--(\\s.*)?$", "").strip());
        }
        return file.edges;
    }

    private void take(String line) {
        Matcher block = BLOCK.matcher(line);
        if (line.startsWith("> ")) {
            objects = new ArrayList<>();
            edges.add(new Edge(line.substring(2), objects));
            startObject();
        } else if (line.equals("new")) {
            startObject();
        } else if (block.matches()) {
            blockTimes = Integer.parseInt(block.group(1));
            blockStart = rows.size();
        } else if (line.equals("}")) {
            repeatBlock();
        } else if (!line.isEmpty()) {
            addCalls(line);
        }
    }

    private void startObject() {
        rows = new ArrayList<>();
        objects.add(rows);
    }

    private void repeatBlock() {
        List<Row> block = List.copyOf(rows.subList(blockStart, rows.size()));
        for (int i = 1; i < blockTimes; i++) {
            rows.addAll(block);
        }
    }

    private void addCalls(String line) {
        Matcher call = CALL.matcher(line);
        if (!call.matches()) {
            throw new IllegalArgumentException("no call: " + line);
        }
        int times = call.group(1) == null ? 1 : Integer.parseInt(call.group(1));
        for (int i = 0; i < times; i++) {
            for (List<String> args : choices(call.group(3))) {
                rows.add(new Row(call.group(2), args, call.group(4)));
            }
        }
    }

    private static List<List<String>> choices(String args) {
        List<List<String>> all = new ArrayList<>();
        all.add(List.of());
        if (args.isBlank()) {
            return all;
        }
        for (String arg : args.split(",")) {
            List<List<String>> longer = new ArrayList<>();
            for (List<String> before : all) {
                for (String choice : arg.strip().split("\\|")) {
                    List<String> next = new ArrayList<>(before);
                    next.add(choice);
                    longer.add(next);
                }
            }
            all = longer;
        }
        return all;
    }
}
