import java.util.ArrayList;
import java.util.List;

/**
 * All that the face tells of an object. The object is made anew for every few questions, since one
 * object answers 512 calls only.
 */
final class View {
    private static final int QUESTIONS_AT_ONCE = 200;

    private final List<EdgeFile.Row> before;
    private final List<String> told = new ArrayList<>();

    private View(List<EdgeFile.Row> before) {
        this.before = before;
    }

    /** What is told behind these calls, but for refused(). */
    static List<String> of(List<EdgeFile.Row> before) {
        View view = new View(before);
        view.askCounts();
        List<EdgeFile.Row> pages = view.askBanks();
        view.askKeys(view.askAll(pages));
        view.askFuture();
        return view.told;
    }

    private void askCounts() {
        List<EdgeFile.Row> questions = new ArrayList<>();
        for (int what = 0; what < 4; what++) {
            questions.add(question("count", what));
        }
        questions.add(question("astray"));
        askAll(questions);
    }

    /** The questions for the pages of all banks. */
    private List<EdgeFile.Row> askBanks() {
        List<EdgeFile.Row> questions = new ArrayList<>();
        for (int bank = 0; bank < 40; bank++) {
            for (int what = 0; what < 8; what++) {
                questions.add(question("told", bank, what));
            }
        }
        List<String> answers = askAll(questions);
        List<EdgeFile.Row> pages = new ArrayList<>();
        for (int bank = 0; bank < 40; bank++) {
            String owned = answers.get(8 * bank + 1);
            for (int k = 0; !Player.isThrown(owned) && k < Integer.parseInt(owned); k++) {
                pages.add(question("page", bank, k));
            }
        }
        return pages;
    }

    private void askKeys(List<String> keys) {
        List<EdgeFile.Row> questions = new ArrayList<>();
        for (String text : keys) {
            int key = Integer.parseInt(text);
            questions.add(question("isAlive", key));
            for (int w = 0; w < 4 && key != 0; w++) {
                questions.add(question("read", key, w));
            }
            for (int i = 1; i < 16 && key != 0; i++) {
                questions.add(question("runKey", key, i));
            }
        }
        askAll(questions);
    }

    /** The versions of free places, and which ones are retired, show only in what is bought next. */
    private void askFuture() {
        Player player = new Player(new PageBanks());
        player.playAll(before);
        told.add("work(192): " + player.play(question("work", 192)));
        String outcome = "";
        for (int place = 0; place <= 192 && !Player.isThrown(outcome); place++) {
            outcome = player.play(question("buy", 0));
            told.add("buy(0): " + outcome);
        }
    }

    private List<String> askAll(List<EdgeFile.Row> questions) {
        List<String> answers = new ArrayList<>();
        for (int from = 0; from < questions.size(); from += QUESTIONS_AT_ONCE) {
            Player player = new Player(new PageBanks());
            player.playAll(before);
            int to = Math.min(questions.size(), from + QUESTIONS_AT_ONCE);
            for (EdgeFile.Row question : questions.subList(from, to)) {
                String answer = player.play(question);
                answers.add(answer);
                told.add(question + ": " + answer);
            }
        }
        return answers;
    }

    private static EdgeFile.Row question(String name, int... args) {
        List<String> texts = new ArrayList<>();
        for (int arg : args) {
            texts.add(String.valueOf(arg));
        }
        return new EdgeFile.Row(name, texts, "");
    }
}
