import java.util.ArrayList;
import java.util.List;
import java.util.Set;
import java.util.TreeSet;

/** Of all ints, the keys of pages in banks that are not dying are alive, and no other ones. */
public final class KeysTest {
    private static final int KEYS_AT_ONCE = 200;

    private static final Check check = new Check("KeysTest");

    public static void main(String[] args) {
        Set<Integer> alive = aliveKeys();
        List<Integer> keys = new ArrayList<>();
        for (int key = -3 * 1024; key < 10 * 1024; key++) {
            keys.add(key);
        }
        // Far ints that have all but one bit in common with a key.
        for (int bit = 13; bit < 32; bit++) {
            for (int key : alive) {
                keys.add(key ^ (1 << bit));
            }
        }
        for (int from = 0; from < keys.size(); from += KEYS_AT_ONCE) {
            askAll(keys.subList(from, Math.min(keys.size(), from + KEYS_AT_ONCE)), alive);
        }
        check.end();
    }

    /** Place 0 is retired, 1 has version 7, 2 and 3 are dying, 4 is sold; the last one is 191. */
    private static PageBanks store() {
        PageBanks x = new PageBanks();
        for (int version = 1; version <= 6; version++) {
            sellBoth(x, x.buyRun(0, 2));
        }
        x.sell(x.buyRun(0, 2));
        x.bank(0, 9);
        x.buyRun(1, 2);
        x.destroy(1);
        for (int run = 0; run < 11; run++) {
            x.buyRun(0, 16);
        }
        x.buyRun(0, 12);
        x.sell(1024 + 2 * 4);
        return x;
    }

    private static void sellBoth(PageBanks x, int key) {
        x.sell(x.runKey(key, 1));
        x.sell(key);
    }

    private static Set<Integer> aliveKeys() {
        Set<Integer> alive = new TreeSet<>();
        addBoth(alive, 7 * 1024 + 2 * 1);
        for (int place = 5; place < 192; place++) {
            addBoth(alive, 1024 + 2 * place);
        }
        return alive;
    }

    private static void addBoth(Set<Integer> alive, int key) {
        alive.add(key);
        alive.add(key + 1);
    }

    private static void askAll(List<Integer> keys, Set<Integer> alive) {
        PageBanks x = store();
        for (int key : keys) {
            String owner = alive.contains(key) ? "0" : "throws NoSuchElementException";
            check.equal("isAlive(" + key + ")", x.isAlive(key), alive.contains(key));
            check.equal("owner(" + key + ")", Check.outcome(() -> x.owner(key)), owner);
        }
    }
}
