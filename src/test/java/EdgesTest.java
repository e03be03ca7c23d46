import java.io.IOException;
import java.nio.file.Files;
import java.nio.file.Path;
import java.util.List;
import java.util.stream.Stream;

/**
 * The sentences of the document that name a boundary case, each with runs of calls of its own:
 * see src/test/edges. A call that throws must leave all else as it was, in every run.
 */
public final class EdgesTest {
    private static final Check check = new Check("EdgesTest");

    public static void main(String[] args) throws IOException {
        int edges = 0;
        for (Path path : files()) {
            for (EdgeFile.Edge edge : EdgeFile.read(path)) {
                show(path, edge);
                edges++;
            }
        }
        System.out.println("EdgesTest: " + edges + " edges");
        check.end();
    }

    private static List<Path> files() throws IOException {
        try (Stream<Path> paths = Files.list(Path.of("src", "test", "edges"))) {
            return paths.sorted().toList();
        }
    }

    private static void show(Path path, EdgeFile.Edge edge) {
        for (List<EdgeFile.Row> rows : edge.objects()) {
            check.scene(path.getFileName() + ", \"" + edge.sentence() + "\", run "
                    + (edge.objects().indexOf(rows) + 1));
            answersAreDue("the model's ", new Player(new Model()), rows);
            answersAreDue("", new Player(new PageBanks()), rows);
            throwingChangesNothing(rows);
        }
    }

    private static void answersAreDue(String whose, Player player, List<EdgeFile.Row> rows) {
        for (EdgeFile.Row row : rows) {
            String outcome = player.play(row);
            if (!row.due().isEmpty()) {
                check.equal(whose + row, outcome, due(row.due()));
            } else if (Player.isThrown(outcome)) {
                check.equal(whose + row, outcome, "an answer");
            }
        }
    }

    private static String due(String text) {
        if (text.startsWith("Unsupported ")) {
            return "Unsupported " + Player.number(text.substring("Unsupported ".length()));
        }
        boolean isWord = text.equals("true") || text.equals("false") || Player.isThrown(text);
        return isWord ? text : String.valueOf(Player.number(text));
    }

    private static void throwingChangesNothing(List<EdgeFile.Row> rows) {
        List<String> view = null;
        for (int i = 0; i < rows.size(); i++) {
            EdgeFile.Row row = rows.get(i);
            if (Player.isThrown(row.due())) {
                List<EdgeFile.Row> before = rows.subList(0, i);
                List<EdgeFile.Row> behind = rows.subList(0, i + 1);
                view = view == null ? View.of(before) : view;
                sameView("behind " + row + ": ", View.of(behind), view);
                refusedStays(before, behind, row);
            } else {
                view = null;
            }
        }
    }

    private static void sameView(String when, List<String> got, List<String> want) {
        int same = 0;
        while (same < got.size() && same < want.size() && got.get(same).equals(want.get(same))) {
            same++;
        }
        check.equal(when + "how much is told", got.size(), want.size());
        if (same < got.size() && same < want.size()) {
            check.equal(when + "what is told", got.get(same), want.get(same));
        }
    }

    /** When the call throws UnsupportedOperation, its own row says what refused() tells then. */
    private static void refusedStays(
            List<EdgeFile.Row> before, List<EdgeFile.Row> behind, EdgeFile.Row row) {
        if (!row.due().startsWith("Unsupported")) {
            check.equal("refused() behind " + row, refusedBehind(behind), refusedBehind(before));
        }
    }

    private static String refusedBehind(List<EdgeFile.Row> rows) {
        Player player = new Player(new PageBanks());
        player.playAll(rows);
        return player.play(new EdgeFile.Row("refused", List.of(), ""));
    }
}
