import java.util.Arrays;
import java.util.NoSuchElementException;

/**
 * A store of pages and the tree of banks that own them. The methods of the face look at their
 * arguments in the order in which the document names the exceptions, and change something only
 * when nothing is left that could throw.
 */
public final class PageBanks {
    public static final int NONE = -1;

    private static final int ROOT = 0;
    private static final int PLACES = 192;
    private static final int WORDS = 4;
    private static final int LAST_VERSION = 7;
    private static final int KEYS_PER_VERSION = 1024;
    private static final int MOST_BANKS = 40;
    private static final int DEEPEST = 6;
    private static final int LONGEST_RUN = 16;

    private static final int LIVE = 0;
    private static final int FROZEN = 1;
    private static final int DYING = 2;
    private static final int ABSENT = 3;

    private final Tree tree;
    private final Store store;
    private int lastRefuser;

    public PageBanks() {
        tree = new Tree();
        store = new Store();
        lastRefuser = NONE;
    }

    public int bank(int parent, int limit)
            throws IndexOutOfBoundsException, IllegalArgumentException, IllegalStateException,
            UnsupportedOperationException {
        requireBank(parent);
        requireArgument(isUpToAllPages(limit));
        requireLive(parent);
        int number = tree.leastUnusedNumber();
        if (number == NONE || tree.depthOf(parent) >= DEEPEST) {
            refuse(NONE);
        }
        tree.open(number, parent, limit);
        return number;
    }

    public int buy(int bank)
            throws IndexOutOfBoundsException, IllegalStateException,
            UnsupportedOperationException {
        requireBank(bank);
        requireLive(bank);
        return buyNeighbours(bank, 1);
    }

    public int buyRun(int bank, int n)
            throws IndexOutOfBoundsException, IllegalArgumentException, IllegalStateException,
            UnsupportedOperationException {
        requireBank(bank);
        requireArgument(n >= 1 && n <= LONGEST_RUN);
        requireLive(bank);
        return buyNeighbours(bank, n);
    }

    public int runKey(int key, int i) throws NoSuchElementException, IllegalArgumentException {
        requireAlive(key);
        requireArgument(isStrong(key) && i >= 0 && i < LONGEST_RUN);
        int place = placeOf(key);
        int other = place + i;
        if (!store.isSameRun(place, other) || tree.isDying(store.ownerOf(other))) {
            return 0;
        }
        return store.strongKey(other);
    }

    public int sell(int key) throws NoSuchElementException, IllegalArgumentException {
        requireAlive(key);
        requireArgument(isStrong(key));
        int place = placeOf(key);
        int seller = store.ownerOf(place);
        store.vacate(place);
        store.closeGaps();
        tree.addUse(seller, -1);
        return seller;
    }

    public int weak(int key) throws NoSuchElementException {
        requireAlive(key);
        return key | 1;
    }

    public int read(int key, int w) throws NoSuchElementException, IndexOutOfBoundsException {
        requireAlive(key);
        requireIndex(isWord(w));
        return store.wordAt(placeOf(key), w);
    }

    public int write(int key, int w, int v)
            throws NoSuchElementException, IllegalArgumentException, IndexOutOfBoundsException {
        requireAlive(key);
        requireArgument(isStrong(key));
        requireIndex(isWord(w));
        return store.replaceWord(placeOf(key), w, v);
    }

    public int move(int key, int bank)
            throws NoSuchElementException, IllegalArgumentException, IndexOutOfBoundsException,
            IllegalStateException, UnsupportedOperationException {
        requireAlive(key);
        requireArgument(isStrong(key));
        requireBank(bank);
        requireLive(bank);
        int place = placeOf(key);
        int giver = store.ownerOf(place);
        tree.addUse(giver, -1);
        int refuser = tree.refuserOf(bank, 1);
        if (refuser != NONE) {
            tree.addUse(giver, 1);
            refuse(refuser);
        }
        tree.addUse(bank, 1);
        store.vacate(place);
        store.closeGaps();
        store.give(place, bank);
        return giver;
    }

    public int limit(int bank, int n)
            throws IndexOutOfBoundsException, IllegalArgumentException, IllegalStateException {
        requireBank(bank);
        requireArgument(isUpToAllPages(n) && bank != ROOT);
        requireState(tree.useOf(bank) <= n && !tree.isDying(bank));
        return tree.replaceLimit(bank, n);
    }

    public int reserve(int bank, int n)
            throws IndexOutOfBoundsException, IllegalArgumentException, IllegalStateException,
            UnsupportedOperationException {
        requireBank(bank);
        requireArgument(isUpToAllPages(n));
        requireLive(bank);
        requireUse(bank, n);
        tree.addReserved(bank, n);
        tree.addUse(bank, n);
        return tree.reservedBy(bank);
    }

    public int unreserve(int bank, int n)
            throws IndexOutOfBoundsException, IllegalArgumentException {
        requireBank(bank);
        requireArgument(n >= 0 && n <= tree.reservedBy(bank));
        tree.addReserved(bank, -n);
        tree.addUse(bank, -n);
        return tree.reservedBy(bank);
    }

    public boolean freeze(int bank, boolean on)
            throws IndexOutOfBoundsException, IllegalArgumentException, IllegalStateException {
        requireOtherThanRoot(bank);
        requireState(!tree.isDying(bank));
        return tree.replaceState(bank, on ? FROZEN : LIVE) == FROZEN;
    }

    public int destroy(int bank)
            throws IndexOutOfBoundsException, IllegalArgumentException, IllegalStateException {
        requireOtherThanRoot(bank);
        requireState(!tree.isDying(bank));
        tree.condemn(bank);
        tree.closeEmptyDying();
        return dyingPages();
    }

    public int work(int n) throws IllegalArgumentException {
        requireArgument(isUpToAllPages(n));
        int left = n;
        for (int place = 0; place < PLACES && left > 0; place++) {
            if (isDyingPage(place)) {
                tree.addUse(store.ownerOf(place), -1);
                store.vacate(place);
                left--;
            }
        }
        store.closeGaps();
        tree.closeEmptyDying();
        return dyingPages();
    }

    public int handUp(int bank)
            throws IndexOutOfBoundsException, IllegalArgumentException, IllegalStateException {
        requireOtherThanRoot(bank);
        requireState(!tree.isDying(bank));
        int pages = store.ownedBy(bank);
        store.giveAll(bank, tree.parentOf(bank));
        tree.mergeIntoParent(bank);
        return pages;
    }

    public int told(int bank, int what)
            throws IndexOutOfBoundsException, IllegalArgumentException {
        requireBank(bank);
        switch (what) {
            case 0:
                return tree.useOf(bank);
            case 1:
                return store.ownedBy(bank);
            case 2:
                return tree.reservedBy(bank);
            case 3:
                return tree.limitOf(bank);
            case 4:
                return tree.parentOf(bank);
            case 5:
                return tree.depthOf(bank);
            case 6:
                return tree.stateOf(bank);
            case 7:
                return tree.subtreeSize(bank);
            default:
                throw new IllegalArgumentException();
        }
    }

    public int page(int bank, int k) throws IndexOutOfBoundsException {
        requireBank(bank);
        int place = store.placeOfOwned(bank, k);
        requireIndex(place != NONE);
        return tree.isDying(bank) ? 0 : store.strongKey(place);
    }

    public int owner(int key) throws NoSuchElementException {
        requireAlive(key);
        return store.ownerOf(placeOf(key));
    }

    public boolean isAlive(int key) {
        int place = placeOf(key);
        return store.hasPage(place, versionOf(key)) && !tree.isDying(store.ownerOf(place));
    }

    public int refused() {
        return lastRefuser;
    }

    public int count(int what) {
        switch (what) {
            case 0:
                return store.freePlaces();
            case 1:
                return store.retiredPlaces();
            case 2:
                return store.pages();
            case 3:
                return tree.subtreeSize(ROOT);
            default:
                return NONE;
        }
    }

    public int astray() {
        int strays = 0;
        for (int bank = 0; bank < MOST_BANKS; bank++) {
            if (tree.isBank(bank) && tree.isStray(bank, store.ownedBy(bank))) {
                strays++;
            }
        }
        store.countListings();
        for (int place = 0; place < PLACES; place++) {
            if (store.isListedWrongly(place) || isWithoutBank(place)) {
                strays++;
            }
        }
        return strays;
    }

    private boolean isWithoutBank(int place) {
        return store.isTaken(place) && !tree.isBank(store.ownerOf(place));
    }

    private int buyNeighbours(int bank, int n) {
        int taken = Math.min(n, tree.reservedBy(bank));
        requireUse(bank, n - taken);
        int first = store.leastFree(n);
        if (first == NONE) {
            refuse(NONE);
        }
        tree.addReserved(bank, -taken);
        tree.addUse(bank, n - taken);
        store.fill(first, n, bank);
        return store.strongKey(first);
    }

    private boolean isDyingPage(int place) {
        return store.isTaken(place) && tree.isDying(store.ownerOf(place));
    }

    private int dyingPages() {
        int pages = 0;
        for (int place = 0; place < PLACES; place++) {
            if (isDyingPage(place)) {
                pages++;
            }
        }
        return pages;
    }

    private void requireUse(int bank, int n) {
        int refuser = tree.refuserOf(bank, n);
        if (refuser != NONE) {
            refuse(refuser);
        }
    }

    private void refuse(int refuser) {
        lastRefuser = refuser;
        throw new UnsupportedOperationException();
    }

    private void requireBank(int bank) {
        requireIndex(tree.isBank(bank));
    }

    private void requireOtherThanRoot(int bank) {
        requireBank(bank);
        requireArgument(bank != ROOT);
    }

    private void requireLive(int bank) {
        requireState(tree.stateOf(bank) == LIVE);
    }

    private void requireAlive(int key) {
        if (!isAlive(key)) {
            throw new NoSuchElementException();
        }
    }

    private static void requireIndex(boolean fits) {
        if (!fits) {
            throw new IndexOutOfBoundsException();
        }
    }

    private static void requireArgument(boolean fits) {
        if (!fits) {
            throw new IllegalArgumentException();
        }
    }

    private static void requireState(boolean fits) {
        if (!fits) {
            throw new IllegalStateException();
        }
    }

    private static boolean isUpToAllPages(int n) {
        return n >= 0 && n <= PLACES;
    }

    private static boolean isWord(int w) {
        return w >= 0 && w < WORDS;
    }

    private static boolean isStrong(int key) {
        return (key & 1) == 0;
    }

    /** Never below 0, also for a key below 0, but it may be behind the last place. */
    private static int placeOf(int key) {
        return Math.floorMod(key, KEYS_PER_VERSION) / 2;
    }

    private static int versionOf(int key) {
        return Math.floorDiv(key, KEYS_PER_VERSION);
    }

    /**
     * The banks. A bank's use is kept, not counted anew, so that raising it looks at one chain
     * of parents only.
     */
    private static final class Tree {
        private final int[] state;
        private final int[] parent;
        private final int[] limits;
        private final int[] reserved;
        private final int[] use;

        Tree() {
            state = new int[MOST_BANKS];
            parent = new int[MOST_BANKS];
            limits = new int[MOST_BANKS];
            reserved = new int[MOST_BANKS];
            use = new int[MOST_BANKS];
            Arrays.fill(state, ABSENT);
            state[ROOT] = LIVE;
            parent[ROOT] = NONE;
            limits[ROOT] = PLACES;
        }

        boolean isBank(int bank) {
            return bank >= 0 && bank < MOST_BANKS && state[bank] != ABSENT;
        }

        boolean isDying(int bank) {
            return state[bank] == DYING;
        }

        int stateOf(int bank) {
            return state[bank];
        }

        int parentOf(int bank) {
            return parent[bank];
        }

        int limitOf(int bank) {
            return limits[bank];
        }

        int reservedBy(int bank) {
            return reserved[bank];
        }

        int useOf(int bank) {
            return use[bank];
        }

        int leastUnusedNumber() {
            for (int bank = 1; bank < MOST_BANKS; bank++) {
                if (state[bank] == ABSENT) {
                    return bank;
                }
            }
            return NONE;
        }

        void open(int bank, int above, int limit) {
            state[bank] = LIVE;
            parent[bank] = above;
            limits[bank] = limit;
            reserved[bank] = 0;
            use[bank] = 0;
        }

        int depthOf(int bank) {
            int depth = 0;
            int above = parent[bank];
            while (above != NONE && depth <= DEEPEST) {
                depth++;
                above = parent[above];
            }
            return depth;
        }

        boolean isWithin(int bank, int top) {
            int above = bank;
            for (int level = 0; level <= DEEPEST && above != NONE; level++) {
                if (above == top) {
                    return true;
                }
                above = parent[above];
            }
            return false;
        }

        int subtreeSize(int top) {
            int size = 0;
            for (int bank = 0; bank < MOST_BANKS; bank++) {
                if (isBank(bank) && isWithin(bank, top)) {
                    size++;
                }
            }
            return size;
        }

        int refuserOf(int bank, int n) {
            int above = bank;
            for (int level = 0; level <= DEEPEST && above != NONE; level++) {
                if (use[above] + n > limits[above]) {
                    return above;
                }
                above = parent[above];
            }
            return NONE;
        }

        void addUse(int bank, int n) {
            int above = bank;
            for (int level = 0; level <= DEEPEST && above != NONE; level++) {
                use[above] += n;
                above = parent[above];
            }
        }

        void addReserved(int bank, int n) {
            reserved[bank] += n;
        }

        int replaceLimit(int bank, int n) {
            int before = limits[bank];
            limits[bank] = n;
            return before;
        }

        int replaceState(int bank, int after) {
            int before = state[bank];
            state[bank] = after;
            return before;
        }

        void condemn(int top) {
            for (int bank = 0; bank < MOST_BANKS; bank++) {
                if (isBank(bank) && isWithin(bank, top)) {
                    state[bank] = DYING;
                    addUse(bank, -reserved[bank]);
                    reserved[bank] = 0;
                }
            }
        }

        /**
         * One pass is enough: below a dying bank all banks are dying with nothing reserved, so
         * one whose use is 0 has no page anywhere below it, and its whole subtree goes with it.
         */
        void closeEmptyDying() {
            for (int bank = 0; bank < MOST_BANKS; bank++) {
                if (isDying(bank) && use[bank] == 0) {
                    state[bank] = ABSENT;
                }
            }
        }

        /** The parent's use stays: what it gets was in its subtree before. */
        void mergeIntoParent(int gone) {
            int heir = parent[gone];
            reserved[heir] += reserved[gone];
            state[gone] = ABSENT;
            for (int bank = 0; bank < MOST_BANKS; bank++) {
                if (isBank(bank) && parent[bank] == gone) {
                    parent[bank] = heir;
                }
            }
        }

        boolean isStray(int bank, int owned) {
            int sum = owned + reserved[bank];
            for (int below = 0; below < MOST_BANKS; below++) {
                if (isBank(below) && parent[below] == bank) {
                    sum += use[below];
                }
            }
            return sum != use[bank] || use[bank] > limits[bank] || !isWithin(bank, ROOT);
        }
    }

    /**
     * The places and their pages. One row holds the places of all pages, whoever owns them, in
     * the order in which their owners got them; a bank's own order is the part of it that it owns.
     */
    private static final class Store {
        private final int[] version;
        private final int[] owners;
        private final int[] run;
        private final int[] words;
        private final int[] order;
        private final int[] spare;
        private int listed;
        private int runs;

        Store() {
            version = new int[PLACES];
            owners = new int[PLACES];
            run = new int[PLACES];
            words = new int[PLACES * WORDS];
            order = new int[PLACES];
            spare = new int[PLACES];
            Arrays.fill(owners, NONE);
        }

        boolean isTaken(int place) {
            return owners[place] != NONE;
        }

        boolean isFree(int place) {
            return owners[place] == NONE && version[place] < LAST_VERSION;
        }

        boolean hasPage(int place, int wanted) {
            return place < PLACES && isTaken(place) && version[place] == wanted;
        }

        boolean isSameRun(int place, int other) {
            return other < PLACES && isTaken(other) && run[other] == run[place];
        }

        int ownerOf(int place) {
            return owners[place];
        }

        int strongKey(int place) {
            return KEYS_PER_VERSION * version[place] + 2 * place;
        }

        int wordAt(int place, int w) {
            return words[place * WORDS + w];
        }

        int replaceWord(int place, int w, int after) {
            int before = words[place * WORDS + w];
            words[place * WORDS + w] = after;
            return before;
        }

        int pages() {
            return listed;
        }

        int freePlaces() {
            int free = 0;
            for (int place = 0; place < PLACES; place++) {
                if (isFree(place)) {
                    free++;
                }
            }
            return free;
        }

        int retiredPlaces() {
            return PLACES - listed - freePlaces();
        }

        int leastFree(int n) {
            int free = 0;
            for (int place = 0; place < PLACES; place++) {
                free = isFree(place) ? free + 1 : 0;
                if (free == n) {
                    return place - n + 1;
                }
            }
            return NONE;
        }

        void fill(int first, int n, int bank) {
            runs++;
            for (int place = first; place < first + n; place++) {
                version[place]++;
                run[place] = runs;
                clearWords(place);
                give(place, bank);
            }
        }

        void clearWords(int place) {
            for (int w = 0; w < WORDS; w++) {
                words[place * WORDS + w] = 0;
            }
        }

        void give(int place, int bank) {
            owners[place] = bank;
            order[listed] = place;
            listed++;
        }

        /** The place stays listed until closeGaps(), so that many may leave in one pass. */
        void vacate(int place) {
            owners[place] = NONE;
        }

        void closeGaps() {
            int kept = 0;
            for (int i = 0; i < listed; i++) {
                if (isTaken(order[i])) {
                    order[kept] = order[i];
                    kept++;
                }
            }
            listed = kept;
        }

        void giveAll(int from, int heir) {
            int kept = 0;
            int given = 0;
            for (int i = 0; i < listed; i++) {
                int place = order[i];
                if (owners[place] == from) {
                    owners[place] = heir;
                    spare[given] = place;
                    given++;
                } else {
                    order[kept] = place;
                    kept++;
                }
            }
            System.arraycopy(spare, 0, order, kept, given);
        }

        int ownedBy(int bank) {
            int owned = 0;
            for (int place = 0; place < PLACES; place++) {
                if (owners[place] == bank) {
                    owned++;
                }
            }
            return owned;
        }

        int placeOfOwned(int bank, int k) {
            int before = 0;
            for (int i = 0; i < listed; i++) {
                if (owners[order[i]] == bank) {
                    if (before == k) {
                        return order[i];
                    }
                    before++;
                }
            }
            return NONE;
        }

        void countListings() {
            Arrays.fill(spare, 0);
            for (int i = 0; i < listed; i++) {
                spare[order[i]]++;
            }
        }

        /** Looks at what countListings() has counted: a page is listed once, no other place is. */
        boolean isListedWrongly(int place) {
            return spare[place] != (isTaken(place) ? 1 : 0);
        }
    }
}
