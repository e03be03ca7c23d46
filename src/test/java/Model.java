import java.util.ArrayList;
import java.util.List;
import java.util.NoSuchElementException;

/**
 * A second writing of the document, word by word, with lists and objects: nothing is kept that can
 * be counted anew.
 */
final class Model {
    private static final class Bank {
        int number;
        Bank parent;
        int limit;
        int reserved;
        int state;
        final List<Page> pages = new ArrayList<>();
    }

    private static final class Page {
        int place;
        int version;
        Object run;
        Bank bank;
        final int[] words = new int[4];

        int key() {
            return 1024 * version + 2 * place;
        }
    }

    private final List<Bank> banks = new ArrayList<>();
    private final Page[] places = new Page[192];
    private final int[] lastVersion = new int[192];
    private int refused = -1;

    Model() {
        Bank root = new Bank();
        root.limit = 192;
        banks.add(root);
    }

    private Bank find(int number) {
        for (Bank bank : banks) {
            if (bank.number == number) {
                return bank;
            }
        }
        return null;
    }

    private Bank need(int number) {
        Bank bank = find(number);
        if (bank == null) {
            throw new IndexOutOfBoundsException();
        }
        return bank;
    }

    private Page atKey(int key) {
        for (Page page : places) {
            if (page != null && (page.key() == key || page.key() + 1 == key) && page.bank.state != 2) {
                return page;
            }
        }
        throw new NoSuchElementException();
    }

    private static void argument(boolean good) {
        if (!good) {
            throw new IllegalArgumentException();
        }
    }

    private static void state(boolean good) {
        if (!good) {
            throw new IllegalStateException();
        }
    }

    private static void strong(int key) {
        argument(key % 2 == 0);
    }

    private static int depth(Bank bank) {
        return bank.parent == null ? 0 : 1 + depth(bank.parent);
    }

    private List<Bank> children(Bank bank) {
        List<Bank> children = new ArrayList<>();
        for (Bank other : banks) {
            if (other.parent == bank) {
                children.add(other);
            }
        }
        return children;
    }

    private List<Bank> subtree(Bank bank) {
        List<Bank> all = new ArrayList<>();
        all.add(bank);
        for (Bank child : children(bank)) {
            all.addAll(subtree(child));
        }
        return all;
    }

    private int use(Bank bank) {
        int use = 0;
        for (Bank each : subtree(bank)) {
            use += each.pages.size() + each.reserved;
        }
        return use;
    }

    private void unsupported(int by) {
        refused = by;
        throw new UnsupportedOperationException();
    }

    private void raising(Bank bank, int n, Page sold) {
        for (Bank up = bank; up != null; up = up.parent) {
            int before = use(up) - (sold != null && subtree(up).contains(sold.bank) ? 1 : 0);
            if (before + n > up.limit) {
                unsupported(up.number);
            }
        }
    }

    private boolean free(int place) {
        return places[place] == null && lastVersion[place] < 7;
    }

    private int dying() {
        int dying = 0;
        for (Page page : places) {
            if (page != null && page.bank.state == 2) {
                dying++;
            }
        }
        return dying;
    }

    private void go(Page page) {
        page.bank.pages.remove(page);
        places[page.place] = null;
    }

    private void letBanksGo() {
        boolean again = true;
        while (again) {
            again = banks.removeIf(
                    b -> b.state == 2 && b.pages.isEmpty() && children(b).isEmpty());
        }
    }

    int bank(int parent, int limit) {
        Bank above = need(parent);
        argument(limit >= 0 && limit <= 192);
        state(above.state == 0);
        if (depth(above) == 6 || banks.size() == 40) {
            unsupported(-1);
        }
        Bank bank = new Bank();
        bank.number = 1;
        while (find(bank.number) != null) {
            bank.number++;
        }
        bank.parent = above;
        bank.limit = limit;
        banks.add(bank);
        return bank.number;
    }

    int buy(int bank) {
        return buyRun(bank, 1);
    }

    int buyRun(int bank, int n) {
        Bank buyer = need(bank);
        argument(n >= 1 && n <= 16);
        state(buyer.state == 0);
        int more = Math.max(0, n - buyer.reserved);
        raising(buyer, more, null);
        for (int first = 0; first + n <= 192; first++) {
            boolean fits = true;
            for (int i = 0; i < n; i++) {
                fits = fits && free(first + i);
            }
            if (fits) {
                buyer.reserved -= n - more;
                buyAt(buyer, first, n);
                return places[first].key();
            }
        }
        unsupported(-1);
        return 0;
    }

    private void buyAt(Bank buyer, int first, int n) {
        Object run = new Object();
        for (int i = 0; i < n; i++) {
            Page page = new Page();
            page.place = first + i;
            lastVersion[first + i]++;
            page.version = lastVersion[first + i];
            page.run = run;
            page.bank = buyer;
            buyer.pages.add(page);
            places[first + i] = page;
        }
    }

    int runKey(int key, int i) {
        Page page = atKey(key);
        strong(key);
        argument(i >= 0 && i <= 15);
        Page other = page.place + i < 192 ? places[page.place + i] : null;
        return other != null && other.run == page.run && other.bank.state != 2 ? other.key() : 0;
    }

    int sell(int key) {
        Page page = atKey(key);
        strong(key);
        go(page);
        return page.bank.number;
    }

    int weak(int key) {
        return atKey(key).key() + 1;
    }

    int read(int key, int w) {
        Page page = atKey(key);
        if (w < 0 || w > 3) {
            throw new IndexOutOfBoundsException();
        }
        return page.words[w];
    }

    int write(int key, int w, int v) {
        atKey(key);
        strong(key);
        int before = read(key, w);
        atKey(key).words[w] = v;
        return before;
    }

    int move(int key, int bank) {
        Page page = atKey(key);
        strong(key);
        Bank getter = need(bank);
        state(getter.state == 0);
        raising(getter, 1, page);
        Bank before = page.bank;
        before.pages.remove(page);
        getter.pages.add(page);
        page.bank = getter;
        return before.number;
    }

    int limit(int bank, int n) {
        Bank it = need(bank);
        argument(n >= 0 && n <= 192 && bank != 0);
        state(use(it) <= n && it.state != 2);
        int before = it.limit;
        it.limit = n;
        return before;
    }

    int reserve(int bank, int n) {
        Bank it = need(bank);
        argument(n >= 0 && n <= 192);
        state(it.state == 0);
        raising(it, n, null);
        it.reserved += n;
        return it.reserved;
    }

    int unreserve(int bank, int n) {
        Bank it = need(bank);
        argument(n >= 0 && n <= it.reserved);
        it.reserved -= n;
        return it.reserved;
    }

    boolean freeze(int bank, boolean on) {
        Bank it = need(bank);
        argument(bank != 0);
        state(it.state != 2);
        boolean was = it.state == 1;
        it.state = on ? 1 : 0;
        return was;
    }

    int destroy(int bank) {
        Bank it = need(bank);
        argument(bank != 0);
        state(it.state != 2);
        for (Bank each : subtree(it)) {
            each.state = 2;
            each.reserved = 0;
        }
        letBanksGo();
        return dying();
    }

    int work(int n) {
        argument(n >= 0 && n <= 192);
        int gone = 0;
        for (Page page : places.clone()) {
            if (gone < n && page != null && page.bank.state == 2) {
                go(page);
                gone++;
            }
        }
        letBanksGo();
        return dying();
    }

    int handUp(int bank) {
        Bank it = need(bank);
        argument(bank != 0);
        state(it.state != 2);
        for (Page page : it.pages) {
            page.bank = it.parent;
        }
        it.parent.pages.addAll(it.pages);
        it.parent.reserved += it.reserved;
        for (Bank child : children(it)) {
            child.parent = it.parent;
        }
        banks.remove(it);
        return it.pages.size();
    }

    int told(int bank, int what) {
        Bank it = need(bank);
        argument(what >= 0 && what <= 7);
        int parent = it.parent == null ? -1 : it.parent.number;
        int[] all = {use(it), it.pages.size(), it.reserved, it.limit, parent, depth(it), it.state,
            subtree(it).size()};
        return all[what];
    }

    int page(int bank, int k) {
        Bank it = need(bank);
        int key = it.pages.get(checked(k, it.pages.size())).key();
        return it.state == 2 ? 0 : key;
    }

    private static int checked(int k, int size) {
        if (k < 0 || k >= size) {
            throw new IndexOutOfBoundsException();
        }
        return k;
    }

    int owner(int key) {
        return atKey(key).bank.number;
    }

    boolean isAlive(int key) {
        try {
            atKey(key);
            return true;
        } catch (NoSuchElementException e) {
            return false;
        }
    }

    int refused() {
        return refused;
    }

    int count(int what) {
        int[] counts = new int[4];
        for (int place = 0; place < 192; place++) {
            counts[free(place) ? 0 : places[place] == null ? 1 : 2]++;
        }
        counts[3] = banks.size();
        return what < 0 || what > 3 ? -1 : counts[what];
    }

    int astray() {
        return 0;
    }
}
