import java.util.Map;
import java.util.Random;
import java.util.TreeMap;

/** Runs of at most 512 calls, drawn from fixed seeds, on the class and on the model. */
public final class ModelTest {
    private static final int RUNS = 3000;
    private static final int CALLS = 512;
    private static final int STYLES = 6;

    /** How often each call is drawn, by style of run: see callOf() for the columns. */
    private static final int[][] WEIGHTS = {
        {6, 8, 6, 3, 5, 1, 2, 4, 6, 3, 4, 3, 3, 2, 3, 2, 6, 4, 2, 2, 2, 2, 1},
        {2, 30, 2, 2, 28, 1, 2, 2, 2, 1, 1, 1, 1, 1, 2, 1, 2, 2, 1, 2, 1, 3, 1},
        {3, 4, 40, 4, 3, 1, 2, 3, 4, 1, 3, 2, 1, 1, 1, 1, 4, 4, 1, 2, 2, 3, 1},
        {30, 8, 4, 1, 2, 1, 1, 1, 6, 4, 4, 2, 6, 3, 4, 4, 8, 2, 1, 1, 2, 2, 1},
        {8, 10, 8, 4, 2, 1, 1, 2, 12, 6, 8, 6, 2, 1, 1, 3, 8, 6, 2, 1, 3, 1, 1},
        {3, 1, 30, 1, 12, 0, 0, 0, 2, 1, 2, 1, 1, 4, 9, 1, 3, 1, 1, 1, 1, 3, 1},
    };

    private static final String[] DUE = {
        "bank #", "bank Index", "bank Argument", "bank State", "bank Unsupported",
        "buy #", "buy Index", "buy State", "buy Unsupported",
        "buyRun #", "buyRun Index", "buyRun Argument", "buyRun State", "buyRun Unsupported",
        "runKey #", "runKey 0", "runKey Dead", "runKey Argument",
        "sell #", "sell Dead", "sell Argument", "weak #", "weak Dead",
        "read #", "read Dead", "read Index", "write #", "write Dead", "write Argument", "write Index",
        "move #", "move Dead", "move Argument", "move Index", "move State", "move Unsupported",
        "limit #", "limit Index", "limit Argument", "limit State",
        "reserve #", "reserve Index", "reserve Argument", "reserve State", "reserve Unsupported",
        "unreserve #", "unreserve Index", "unreserve Argument",
        "freeze #", "freeze Index", "freeze Argument", "freeze State",
        "destroy #", "destroy Index", "destroy Argument", "destroy State",
        "work #", "work Argument", "handUp #", "handUp Index", "handUp Argument", "handUp State",
        "told #", "told Index", "told Argument", "page #", "page 0", "page Index",
        "owner #", "owner Dead", "isAlive #", "refused #", "count #", "astray 0",
    };

    private final Check check;
    private final Map<String, Integer> seen;
    private final Random random;
    private final int[] weights;
    private final PageBanks real = new PageBanks();
    private final Model model = new Model();
    private final int[] keys = new int[CALLS];
    private int keyCount = 0;

    private ModelTest(Check check, Map<String, Integer> seen, int seed) {
        this.check = check;
        this.seen = seen;
        random = new Random(seed);
        weights = WEIGHTS[seed % STYLES];
        check.scene("seed " + seed);
    }

    public static void main(String[] args) {
        Check check = new Check("ModelTest");
        Map<String, Integer> seen = new TreeMap<>();
        for (int seed = 0; seed < RUNS; seed++) {
            new ModelTest(check, seen, seed).run();
        }
        check.scene("all runs");
        for (String kind : DUE) {
            check.equal("some run reaches '" + kind + "'", seen.containsKey(kind), true);
        }
        check.end();
    }

    private void run() {
        int calls = 0;
        while (calls < CALLS - 120) {
            step();
            calls++;
        }
        // The rest of the calls look at what the run has left.
        for (; calls < CALLS; calls++) {
            look(calls);
        }
    }

    private void step() {
        int total = 0;
        for (int weight : weights) {
            total += weight;
        }
        int drawn = random.nextInt(total);
        int which = 0;
        while (drawn >= weights[which]) {
            drawn -= weights[which];
            which++;
        }
        callOf(which);
    }

    private void callOf(int which) {
        int b = someBank();
        int k = someKey();
        int n = someNumber();
        switch (which) {
            case 0 -> both("bank", () -> real.bank(b, n), () -> model.bank(b, n), b, n);
            case 1 -> bought(both("buy", () -> real.buy(b), () -> model.buy(b), b));
            case 2 -> bought(run(b, random.nextInt(10) == 0 ? n : 1 + random.nextInt(16)));
            case 3 -> runKey(k, random.nextInt(18) - 1);
            case 4 -> both("sell", () -> real.sell(k), () -> model.sell(k), k);
            case 5 -> both("weak", () -> real.weak(k), () -> model.weak(k), k);
            case 6 -> reading(k, random.nextInt(6) - 1);
            case 7 -> writing(k, random.nextInt(6) - 1, random.nextInt());
            case 8 -> both("move", () -> real.move(k, b), () -> model.move(k, b), k, b);
            case 9 -> both("limit", () -> real.limit(b, n), () -> model.limit(b, n), b, n);
            case 10 -> both("reserve", () -> real.reserve(b, n), () -> model.reserve(b, n), b, n);
            case 11 -> both("unreserve", () -> real.unreserve(b, n), () -> model.unreserve(b, n), b, n);
            case 12 -> freezing(b, random.nextInt(3) == 0);
            case 13 -> both("destroy", () -> real.destroy(b), () -> model.destroy(b), b);
            case 14 -> both("work", () -> real.work(n), () -> model.work(n), n);
            case 15 -> both("handUp", () -> real.handUp(b), () -> model.handUp(b), b);
            case 16 -> telling(b, random.nextInt(10) - 1);
            case 17 -> paging(b, random.nextInt(2) == 0 ? random.nextInt(5) - 1 : n);
            case 18 -> both("owner", () -> real.owner(k), () -> model.owner(k), k);
            case 19 -> both("isAlive", () -> real.isAlive(k), () -> model.isAlive(k), k);
            case 20 -> both("refused", () -> real.refused(), () -> model.refused());
            case 21 -> counting(random.nextInt(6) - 1);
            default -> both("astray", () -> real.astray(), () -> model.astray());
        }
    }

    private void look(int call) {
        switch (call % 4) {
            case 0 -> telling(call / 4 % 10, call % 8);
            case 1 -> paging(call / 4 % 5, call / 20 % 6);
            case 2 -> callOf(16);
            default -> callOf(17 + random.nextInt(6));
        }
    }

    private String run(int b, int n) {
        return both("buyRun", () -> real.buyRun(b, n), () -> model.buyRun(b, n), b, n);
    }

    private void runKey(int k, int i) {
        both("runKey", () -> real.runKey(k, i), () -> model.runKey(k, i), k, i);
    }

    private void reading(int k, int w) {
        both("read", () -> real.read(k, w), () -> model.read(k, w), k, w);
    }

    private void writing(int k, int w, int v) {
        both("write", () -> real.write(k, w, v), () -> model.write(k, w, v), k, w, v);
    }

    private void freezing(int b, boolean on) {
        both("freeze", () -> real.freeze(b, on), () -> model.freeze(b, on), b, on ? 1 : 0);
    }

    private void telling(int b, int what) {
        both("told", () -> real.told(b, what), () -> model.told(b, what), b, what);
    }

    private void paging(int b, int k) {
        both("page", () -> real.page(b, k), () -> model.page(b, k), b, k);
    }

    private void counting(int what) {
        both("count", () -> real.count(what), () -> model.count(what), what);
    }

    private String both(String name, Check.Call onReal, Check.Call onModel, int... args) {
        String want = Check.outcome(onModel);
        StringBuilder call = new StringBuilder(name);
        for (int arg : args) {
            call.append(' ').append(arg);
        }
        check.equal(call.toString(), Check.outcome(onReal), want);
        seen.merge(name + " " + kind(want), 1, Integer::sum);
        if (want.equals("0")) {
            seen.merge(name + " 0", 1, Integer::sum);
        }
        return want;
    }

    private static String kind(String outcome) {
        return switch (outcome) {
            case "throws IndexOutOfBoundsException" -> "Index";
            case "throws IllegalArgumentException" -> "Argument";
            case "throws IllegalStateException" -> "State";
            case "throws UnsupportedOperationException" -> "Unsupported";
            case "throws NoSuchElementException" -> "Dead";
            default -> "#";
        };
    }

    private void bought(String outcome) {
        if (!outcome.startsWith("throws") && keyCount < keys.length) {
            keys[keyCount] = Integer.parseInt(outcome);
            keyCount++;
        }
    }

    private int someBank() {
        int banks = model.count(3);
        int draw = random.nextInt(20);
        if (draw == 0) {
            return random.nextInt(44) - 2;
        }
        return draw < 4 ? 0 : random.nextInt(banks + (draw == 4 ? 2 : 0));
    }

    private int someKey() {
        int draw = random.nextInt(12);
        if (keyCount == 0 || draw == 0) {
            return random.nextInt(9 * 1024) - 512;
        }
        int back = random.nextInt(draw < 6 ? Math.min(4, keyCount) : keyCount);
        int inRun = draw % 3 == 0 ? 2 * random.nextInt(8) : 0;
        return keys[keyCount - 1 - back] + inRun + (random.nextInt(12) == 0 ? 1 : 0);
    }

    private int someNumber() {
        int draw = random.nextInt(24);
        if (draw == 0) {
            return random.nextInt();
        } else if (draw < 3) {
            return 190 + random.nextInt(5);
        }
        return draw < 16 ? random.nextInt(12) - 1 : random.nextInt(194);
    }
}
