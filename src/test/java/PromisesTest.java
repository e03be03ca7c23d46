/** Each promise of the document: ordinary inputs, its edges, and wrong inputs. */
public final class PromisesTest {
    private static final int NONE = PageBanks.NONE;
    private static final int[] NO_BANKS = {-1, 1, 39, 40, Integer.MIN_VALUE, Integer.MAX_VALUE};
    private static final int[] NO_LIMITS = {-1, 193, Integer.MIN_VALUE, Integer.MAX_VALUE};

    private static final Check check = new Check("PromisesTest");

    public static void main(String[] args) {
        aNewObject();
        bankGetsLeastNumber();
        bankRefusesWrongInput();
        bankKeepsDepthAndCount();
        buyTakesLeastPlace();
        buyTakesReservedFirst();
        buyIsRefused();
        buyFindsNoPlace();
        versionsEndInRetirement();
        buyRunTakesNeighbours();
        buyRunTakesReservedFirst();
        buyRunIsRefused();
        buyRunFindsNoPlace();
        runKeyStaysInTheRun();
        runKeyFollowsPagesToOtherBanks();
        sellFreesThePage();
        weakKeys();
        readWords();
        writeWords();
        moveChangesOwnerAndOrder();
        moveWithinItsBank();
        moveIsAsIfSoldFirst();
        moveIsRefused();
        moveThrowsInOrder();
        limitIsSet();
        reserveRaisesUse();
        unreserveLowersUse();
        freezeStopsGettingPages();
        destroyKillsKeysAtOnce();
        destroyCountsAllDyingPages();
        destroyedBanksGoWhenEmpty();
        workFreesLeastPlacesFirst();
        workLetsBanksGo();
        handUpGivesAllToParent();
        handUpOfFrozenAndDying();
        toldOfBanks();
        pageOfBanks();
        ownerOfPages();
        isAliveOfAnyInt();
        refusedStaysUntilTheNext();
        countOfAll();
        astrayIsNone();
        check.end();
    }

    private static void aNewObject() {
        check.scene("1 a new object");
        PageBanks x = new PageBanks();
        check.equal("banks", x.count(3), 1);
        check.equal("pages", x.count(2), 0);
        check.equal("free", x.count(0), 192);
        check.equal("retired", x.count(1), 0);
        check.equal("refused", x.refused(), NONE);
        check.equal("astray", x.astray(), 0);
        tellsAll(x, 0, 0, 0, 0, 192, NONE, 0, 0, 1);
        for (int bank : NO_BANKS) {
            check.throwing("told(" + bank + ", 0)", Check.INDEX, () -> x.told(bank, 0));
        }
        PageBanks y = new PageBanks();
        x.bank(0, 5);
        x.buy(0);
        check.equal("another object's pages", y.count(2), 0);
        check.equal("another object's banks", y.count(3), 1);
    }

    private static void tellsAll(PageBanks x, int bank, int... want) {
        for (int what = 0; what < want.length; what++) {
            check.equal("told(" + bank + ", " + what + ")", x.told(bank, what), want[what]);
        }
    }

    private static void bankGetsLeastNumber() {
        check.scene("2 bank");
        PageBanks x = new PageBanks();
        check.equal("bank(0, 0)", x.bank(0, 0), 1);
        check.equal("bank(1, 192)", x.bank(1, 192), 2);
        check.equal("bank(0, 7)", x.bank(0, 7), 3);
        tellsAll(x, 1, 0, 0, 0, 0, 0, 1, 0, 2);
        tellsAll(x, 2, 0, 0, 0, 192, 1, 2, 0, 1);
        tellsAll(x, 3, 0, 0, 0, 7, 0, 1, 0, 1);
        x.destroy(2);
        check.equal("the least number is used again", x.bank(3, 4), 2);
        tellsAll(x, 2, 0, 0, 0, 4, 3, 2, 0, 1);
        x.handUp(1);
        check.equal("so is a handed up one's", x.bank(2, 1), 1);
        check.equal("then one more", x.bank(2, 1), 4);
        x.buy(4);
        x.destroy(4);
        check.equal("a dying bank has its number still", x.bank(0, 1), 5);
        PageBanks y = new PageBanks();
        y.bank(0, 9);
        y.reserve(1, 3);
        y.buyRun(1, 5);
        y.handUp(1);
        y.bank(0, 4);
        tellsAll(y, 1, 0, 0, 0, 4, 0, 1, 0, 1);
    }

    private static void bankRefusesWrongInput() {
        check.scene("2 bank, wrong inputs");
        PageBanks x = new PageBanks();
        for (int parent : NO_BANKS) {
            check.throwing("bank(" + parent + ", 193)", Check.INDEX, () -> x.bank(parent, 193));
        }
        for (int limit : NO_LIMITS) {
            check.throwing("bank(0, " + limit + ")", Check.ARGUMENT, () -> x.bank(0, limit));
        }
        x.bank(0, 9);
        x.freeze(1, true);
        check.throwing("limit before state", Check.ARGUMENT, () -> x.bank(1, 193));
        check.throwing("below a frozen bank", Check.STATE, () -> x.bank(1, 1));
        x.freeze(1, false);
        check.equal("below it when live", x.bank(1, 1), 2);
        x.freeze(1, true);
        check.equal("below a live bank below a frozen one", x.bank(2, 1), 3);
        x.buy(3);
        x.destroy(1);
        check.throwing("below a dying bank", Check.STATE, () -> x.bank(3, 1));
        check.equal("banks", x.count(3), 4);
        check.equal("refused", x.refused(), NONE);
    }

    private static void bankKeepsDepthAndCount() {
        check.scene("2 bank, depth and number of banks");
        PageBanks x = new PageBanks();
        for (int depth = 1; depth <= 6; depth++) {
            check.equal("bank at depth " + depth, x.bank(depth - 1, 5), depth);
        }
        check.throwing("depth 7", Check.UNSUPPORTED, () -> x.bank(6, 5));
        x.freeze(6, true);
        check.throwing("state before depth", Check.STATE, () -> x.bank(6, 5));
        x.freeze(6, false);
        x.limit(1, 0);
        check.throwing("a refusal", Check.UNSUPPORTED, () -> x.buy(6));
        check.equal("refused", x.refused(), 1);
        check.throwing("depth 7", Check.UNSUPPORTED, () -> x.bank(6, 5));
        check.equal("refused by none", x.refused(), NONE);
        for (int bank = 7; bank <= 39; bank++) {
            check.equal("bank " + bank, x.bank(0, 5), bank);
        }
        check.throwing("a refusal", Check.UNSUPPORTED, () -> x.buy(6));
        check.throwing("bank 40", Check.UNSUPPORTED, () -> x.bank(0, 5));
        check.equal("refused by none", x.refused(), NONE);
        check.equal("banks", x.count(3), 40);
        x.handUp(3);
        check.equal("handing up makes room below", x.bank(6, 5), 3);
        check.equal("depth", x.told(3, 5), 6);
    }

    private static void buyTakesLeastPlace() {
        check.scene("3 buy");
        PageBanks x = new PageBanks();
        x.bank(0, 3);
        x.bank(1, 3);
        check.equal("buy(2)", x.buy(2), 1024);
        check.equal("buy(0)", x.buy(0), 1026);
        check.equal("buy(2)", x.buy(2), 1028);
        tellsAll(x, 2, 2, 2);
        tellsAll(x, 1, 2, 0);
        tellsAll(x, 0, 3, 1);
        x.write(1026, 2, 5);
        x.sell(1026);
        check.equal("the least place again", x.buy(2), 2050);
        check.equal("its words are 0", x.read(2050, 2), 0);
        check.equal("the order is that of buying", x.page(2, 2), 2050);
        for (int bank : new int[] {-1, 3, 40}) {
            check.throwing("buy(" + bank + ")", Check.INDEX, () -> x.buy(bank));
        }
        x.freeze(2, true);
        check.throwing("frozen, and refused too", Check.STATE, () -> x.buy(2));
        x.destroy(2);
        check.throwing("dying", Check.STATE, () -> x.buy(2));
        check.equal("refused", x.refused(), NONE);
    }

    private static void buyTakesReservedFirst() {
        check.scene("3 buy, reserved");
        PageBanks x = new PageBanks();
        x.bank(0, 2);
        x.bank(1, 1);
        x.reserve(2, 1);
        x.reserve(1, 1);
        x.buy(2);
        tellsAll(x, 2, 1, 1, 0);
        tellsAll(x, 1, 2, 0, 1);
        tellsAll(x, 0, 2, 0, 0);
        check.throwing("the parent's reserve is not the child's", Check.UNSUPPORTED, () -> x.buy(2));
        check.equal("refused", x.refused(), 2);
        x.limit(2, 9);
        check.throwing("nor when the parent refuses", Check.UNSUPPORTED, () -> x.buy(2));
        check.equal("refused", x.refused(), 1);
        x.buy(1);
        tellsAll(x, 1, 2, 1, 0);
    }

    private static void buyIsRefused() {
        check.scene("3 buy, refused");
        PageBanks x = new PageBanks();
        x.bank(0, 2);
        x.bank(1, 2);
        x.bank(2, 1);
        x.buy(3);
        check.throwing("by itself", Check.UNSUPPORTED, () -> x.buy(3));
        check.equal("refused", x.refused(), 3);
        x.buy(1);
        x.limit(3, 5);
        check.throwing("by the first one upward", Check.UNSUPPORTED, () -> x.buy(3));
        check.equal("refused", x.refused(), 1);
        x.limit(2, 1);
        check.throwing("by the first one upward", Check.UNSUPPORTED, () -> x.buy(3));
        check.equal("refused", x.refused(), 2);
        check.equal("pages", x.count(2), 2);
        reachesRootFromDepthSix();
        x.reserve(0, 190);
        x.limit(1, 9);
        x.limit(2, 9);
        check.throwing("by the root", Check.UNSUPPORTED, () -> x.buy(3));
        check.equal("refused", x.refused(), 0);
        tellsAll(x, 3, 1, 1, 0);
    }

    private static void reachesRootFromDepthSix() {
        PageBanks x = new PageBanks();
        for (int parent = 0; parent < 6; parent++) {
            x.bank(parent, 192);
        }
        x.buy(6);
        check.equal("use of the root", x.told(0, 0), 1);
        x.reserve(0, 191);
        check.throwing("by the root, far above", Check.UNSUPPORTED, () -> x.buy(6));
        check.equal("refused", x.refused(), 0);
    }

    private static void buyFindsNoPlace() {
        check.scene("3 buy, no place");
        PageBanks x = new PageBanks();
        retire(x, 0);
        fill(x, 191);
        check.equal("free", x.count(0), 0);
        check.throwing("use 191, no place", Check.UNSUPPORTED, () -> x.buy(0));
        check.equal("refused", x.refused(), NONE);
        x.reserve(0, 1);
        check.throwing("reserved, no place", Check.UNSUPPORTED, () -> x.buy(0));
        check.equal("refused", x.refused(), NONE);
        check.equal("still reserved", x.told(0, 2), 1);
        x.bank(0, 0);
        check.throwing("refused, and no place", Check.UNSUPPORTED, () -> x.buy(1));
        check.equal("refused", x.refused(), 1);
        check.equal("pages", x.count(2), 191);
        check.equal("use", x.told(0, 0), 192);
    }

    private static void retire(PageBanks x, int bank) {
        for (int version = 1; version <= 7; version++) {
            x.sell(x.buy(bank));
        }
    }

    private static void fill(PageBanks x, int pages) {
        int left = pages;
        while (left > 0) {
            int n = Math.min(16, left);
            x.buyRun(0, n);
            left -= n;
        }
    }

    private static void versionsEndInRetirement() {
        check.scene("versions");
        PageBanks x = new PageBanks();
        for (int version = 1; version <= 7; version++) {
            int key = 1024 * version;
            check.equal("version " + version, x.buy(0), key);
            check.equal("not retired with its page", x.count(1), 0);
            check.equal("the key before is dead", x.isAlive(key - 1024), false);
            x.sell(key);
        }
        check.equal("retired", x.count(1), 1);
        check.equal("free", x.count(0), 191);
        check.equal("the next place", x.buy(0), 1026);
        check.equal("a run behind it", x.buyRun(0, 2), 1028);
        check.equal("version 8 is dead", x.isAlive(8192), false);
    }

    private static void buyRunTakesNeighbours() {
        check.scene("4 buyRun");
        PageBanks x = new PageBanks();
        x.bank(0, 192);
        check.equal("buyRun(1, 3)", x.buyRun(1, 3), 1024);
        check.equal("buyRun(0, 16)", x.buyRun(0, 16), 1030);
        check.equal("buyRun(1, 1)", x.buyRun(1, 1), 1062);
        x.sell(1026);
        check.equal("a gap of 1 is too small for 2", x.buyRun(1, 2), 1064);
        x.sell(1028);
        x.write(1024, 0, 9);
        check.equal("a gap of 2", x.buyRun(1, 2), 2050);
        int[] order = {1024, 1062, 1064, 1066, 2050, 2052};
        for (int k = 0; k < order.length; k++) {
            check.equal("page(1, " + k + ")", x.page(1, k), order[k]);
        }
        x.sell(1024);
        x.sell(2050);
        check.equal("versions go with the places", x.buyRun(1, 2), 2048);
        check.equal("the second one's version", x.runKey(2048, 1), 3074);
        check.equal("words", x.read(2048, 0), 0);
        for (int bank : new int[] {-1, 2, 40}) {
            check.throwing("buyRun(" + bank + ", 0)", Check.INDEX, () -> x.buyRun(bank, 0));
        }
        x.freeze(1, true);
        for (int n : new int[] {-1, 0, 17, Integer.MAX_VALUE, Integer.MIN_VALUE}) {
            check.throwing("buyRun(1, " + n + ")", Check.ARGUMENT, () -> x.buyRun(1, n));
        }
        check.throwing("frozen", Check.STATE, () -> x.buyRun(1, 16));
        x.destroy(1);
        check.throwing("dying", Check.STATE, () -> x.buyRun(1, 1));
        check.equal("pages", x.count(2), 22);
    }

    private static void buyRunTakesReservedFirst() {
        check.scene("4 buyRun, reserved");
        PageBanks x = new PageBanks();
        x.bank(0, 10);
        x.reserve(1, 4);
        x.buyRun(1, 3);
        tellsAll(x, 1, 4, 3, 1);
        x.buyRun(1, 3);
        tellsAll(x, 1, 6, 6, 0);
        tellsAll(x, 0, 6, 0, 0);
        x.reserve(1, 2);
        check.throwing("2 reserved and 2 more: 5 are too many", Check.UNSUPPORTED, () -> x.buyRun(1, 5));
        check.equal("refused", x.refused(), 1);
        tellsAll(x, 1, 8, 6, 2);
        x.buyRun(1, 4);
        tellsAll(x, 1, 10, 10, 0);
    }

    private static void buyRunIsRefused() {
        check.scene("4 buyRun, refused");
        PageBanks x = new PageBanks();
        x.bank(0, 5);
        x.bank(1, 9);
        check.throwing("by the parent", Check.UNSUPPORTED, () -> x.buyRun(2, 6));
        check.equal("refused", x.refused(), 1);
        check.throwing("by itself", Check.UNSUPPORTED, () -> x.buyRun(2, 10));
        check.equal("refused", x.refused(), 2);
        check.equal("to the limit", x.buyRun(2, 5), 1024);
    }

    private static void buyRunFindsNoPlace() {
        check.scene("4 buyRun, no place");
        PageBanks x = new PageBanks();
        fill(x, 190);
        x.buy(0);
        x.sell(1024);
        check.equal("free are 0 and 191", x.count(0), 2);
        check.throwing("no two neighbours", Check.UNSUPPORTED, () -> x.buyRun(0, 2));
        check.equal("refused", x.refused(), NONE);
        x.sell(1024 + 2 * 190);
        check.equal("the last two", x.buyRun(0, 2), 2048 + 2 * 190);
        check.equal("the last place has its first version", x.runKey(2048 + 2 * 190, 1), 1024 + 2 * 191);
        check.throwing("more than root's limit, no place", Check.UNSUPPORTED, () -> x.buyRun(0, 2));
        check.equal("refused", x.refused(), 0);
        check.equal("the first one", x.buyRun(0, 1), 2048);
    }

    private static void runKeyStaysInTheRun() {
        check.scene("5 runKey");
        PageBanks x = new PageBanks();
        x.buyRun(0, 16);
        x.buyRun(0, 2);
        x.buy(0);
        x.buy(0);
        for (int i = 0; i < 16; i++) {
            check.equal("runKey(1024, " + i + ")", x.runKey(1024, i), 1024 + 2 * i);
        }
        check.equal("another run", x.runKey(1054, 1), 0);
        check.equal("the first of that run", x.runKey(1056, 0), 1056);
        check.equal("the second", x.runKey(1056, 1), 1058);
        check.equal("bought alone", x.runKey(1060, 0), 1060);
        check.equal("behind one bought alone", x.runKey(1060, 1), 0);
        check.equal("a free place", x.runKey(1062, 1), 0);
        x.sell(1026);
        check.equal("sold", x.runKey(1024, 1), 0);
        check.equal("behind a sold one", x.runKey(1024, 2), 1028);
        x.buy(0);
        check.equal("bought anew is not in the run", x.runKey(1024, 1), 0);
        check.equal("the new one alone", x.runKey(2050, 1), 0);
        check.throwing("dead before weak", Check.DEAD, () -> x.runKey(1027, 16));
        check.throwing("weak", Check.ARGUMENT, () -> x.runKey(1025, 0));
        for (int i : new int[] {-1, 16, Integer.MIN_VALUE, Integer.MAX_VALUE}) {
            check.throwing("runKey(1024, " + i + ")", Check.ARGUMENT, () -> x.runKey(1024, i));
        }
        PageBanks y = new PageBanks();
        fill(y, 192);
        check.equal("the last place", y.runKey(1024 + 2 * 191, 0), 1024 + 2 * 191);
        check.equal("behind the last place", y.runKey(1024 + 2 * 191, 1), 0);
        check.equal("far behind it", y.runKey(1024 + 2 * 191, 15), 0);
    }

    private static void runKeyFollowsPagesToOtherBanks() {
        check.scene("5 runKey, other banks");
        PageBanks x = new PageBanks();
        x.bank(0, 9);
        x.bank(0, 9);
        x.buyRun(1, 3);
        x.move(1026, 2);
        check.equal("whoever owns it", x.runKey(1024, 1), 1026);
        check.equal("from there too", x.runKey(1026, 1), 1028);
        x.destroy(2);
        check.equal("dead in a dying bank", x.runKey(1024, 1), 0);
        check.equal("behind a dead one", x.runKey(1024, 2), 1028);
        check.throwing("of a dead one", Check.DEAD, () -> x.runKey(1026, 1));
    }

    private static void sellFreesThePage() {
        check.scene("6 sell");
        PageBanks x = new PageBanks();
        x.bank(0, 2);
        x.bank(1, 2);
        x.buyRun(2, 2);
        check.throwing("weak", Check.ARGUMENT, () -> x.sell(1025));
        check.equal("sell(1024)", x.sell(1024), 2);
        tellsAll(x, 2, 1, 1, 0);
        tellsAll(x, 1, 1, 0, 0);
        tellsAll(x, 0, 1, 0, 0);
        check.equal("its key is dead", x.isAlive(1024), false);
        check.equal("its weak key too", x.isAlive(1025), false);
        check.equal("the order closes", x.page(2, 0), 1026);
        check.throwing("sold before", Check.DEAD, () -> x.sell(1024));
        check.throwing("dead before weak", Check.DEAD, () -> x.sell(1025));
        check.throwing("never a key", Check.DEAD, () -> x.sell(0));
        x.freeze(2, true);
        check.equal("of a frozen bank", x.sell(1026), 2);
        check.equal("free", x.count(0), 192);
        x.freeze(2, false);
        x.reserve(2, 1);
        x.sell(x.buy(2));
        check.equal("selling reserves nothing", x.told(2, 2), 0);
    }

    private static void weakKeys() {
        check.scene("7 weak");
        PageBanks x = new PageBanks();
        x.buyRun(0, 2);
        check.equal("weak(1026)", x.weak(1026), 1027);
        check.equal("of a weak one", x.weak(1027), 1027);
        check.throwing("never bought", Check.DEAD, () -> x.weak(1028));
        x.sell(1026);
        check.throwing("sold", Check.DEAD, () -> x.weak(1026));
        check.throwing("weak, sold", Check.DEAD, () -> x.weak(1027));
    }

    private static void readWords() {
        check.scene("8 read");
        PageBanks x = new PageBanks();
        x.buyRun(0, 2);
        for (int w = 0; w < 4; w++) {
            check.equal("a new page's word", x.read(1024, w), 0);
            x.write(1024, w, 10 + w);
        }
        for (int w = 0; w < 4; w++) {
            check.equal("by the strong key", x.read(1024, w), 10 + w);
            check.equal("by the weak key", x.read(1025, w), 10 + w);
            check.equal("of the neighbour", x.read(1026, w), 0);
        }
        for (int w : new int[] {-1, 4, Integer.MIN_VALUE, Integer.MAX_VALUE}) {
            check.throwing("read(1024, " + w + ")", Check.INDEX, () -> x.read(1024, w));
            check.throwing("read(1025, " + w + ")", Check.INDEX, () -> x.read(1025, w));
            check.throwing("dead before that", Check.DEAD, () -> x.read(2048, w));
        }
    }

    private static void writeWords() {
        check.scene("9 write");
        PageBanks x = new PageBanks();
        x.buy(0);
        check.equal("what it was", x.write(1024, 3, Integer.MIN_VALUE), 0);
        check.equal("what it was", x.write(1024, 3, -1), Integer.MIN_VALUE);
        check.equal("what it is", x.read(1024, 3), -1);
        check.equal("the word before", x.read(1024, 2), 0);
        check.throwing("weak", Check.ARGUMENT, () -> x.write(1025, 3, 1));
        check.throwing("weak before the word", Check.ARGUMENT, () -> x.write(1025, 4, 1));
        check.throwing("dead before weak", Check.DEAD, () -> x.write(1027, 4, 1));
        check.throwing("word 4", Check.INDEX, () -> x.write(1024, 4, 1));
        check.throwing("word -1", Check.INDEX, () -> x.write(1024, -1, 1));
        check.equal("nothing changed", x.read(1024, 3), -1);
        x.bank(0, 1);
        x.move(1024, 1);
        x.freeze(1, true);
        check.equal("words move with the page, frozen or not", x.write(1024, 3, 8), -1);
    }

    private static void moveChangesOwnerAndOrder() {
        check.scene("10 move");
        PageBanks x = new PageBanks();
        x.bank(0, 5);
        x.bank(0, 5);
        x.buyRun(1, 3);
        x.buy(2);
        x.reserve(2, 1);
        check.equal("move(1026, 2)", x.move(1026, 2), 1);
        check.equal("owner", x.owner(1026), 2);
        check.equal("as its last", x.page(2, 1), 1026);
        check.equal("gone from the other", x.page(1, 1), 1028);
        tellsAll(x, 1, 2, 2, 0);
        tellsAll(x, 2, 3, 2, 1);
        tellsAll(x, 0, 5, 0, 0);
        x.freeze(1, true);
        check.equal("out of a frozen bank", x.move(1024, 2), 1);
        check.equal("the root gets one", x.move(1030, 0), 2);
        check.equal("version and place stay", x.isAlive(1030), true);
        check.equal("order", x.page(2, 0), 1026);
        check.equal("order", x.page(2, 1), 1024);
    }

    private static void moveWithinItsBank() {
        check.scene("10 move, same bank");
        PageBanks x = new PageBanks();
        x.bank(0, 3);
        x.buyRun(1, 3);
        check.equal("at its limit", x.move(1024, 1), 1);
        check.equal("page(1, 0)", x.page(1, 0), 1026);
        check.equal("page(1, 1)", x.page(1, 1), 1028);
        check.equal("page(1, 2)", x.page(1, 2), 1024);
        tellsAll(x, 1, 3, 3, 0);
        x.freeze(1, true);
        check.throwing("frozen", Check.STATE, () -> x.move(1026, 1));
    }

    private static void moveIsAsIfSoldFirst() {
        check.scene("10 move, as if sold");
        PageBanks x = new PageBanks();
        x.bank(0, 2);
        x.bank(1, 1);
        x.bank(1, 1);
        x.buy(2);
        x.buy(1);
        check.equal("between children of a full bank", x.move(1024, 3), 2);
        tellsAll(x, 1, 2, 1, 0);
        tellsAll(x, 2, 0, 0, 0);
        tellsAll(x, 3, 1, 1, 0);
        check.equal("up to the full bank", x.move(1024, 1), 3);
        check.equal("down from the full bank", x.move(1026, 3), 1);
        tellsAll(x, 1, 2, 1, 0);
        tellsAll(x, 0, 2, 0, 0);
    }

    private static void moveIsRefused() {
        check.scene("10 move, refused");
        PageBanks x = new PageBanks();
        x.bank(0, 1);
        x.bank(1, 5);
        x.buy(1);
        x.buy(0);
        check.throwing("by the parent", Check.UNSUPPORTED, () -> x.move(1026, 2));
        check.equal("refused", x.refused(), 1);
        x.limit(2, 0);
        check.throwing("by itself", Check.UNSUPPORTED, () -> x.move(1026, 2));
        check.equal("refused", x.refused(), 2);
        check.throwing("its own parent's page", Check.UNSUPPORTED, () -> x.move(1024, 2));
        check.equal("refused", x.refused(), 2);
        tellsAll(x, 0, 2, 1, 0);
        tellsAll(x, 1, 1, 1, 0);
        tellsAll(x, 2, 0, 0, 0);
        check.equal("owner", x.owner(1026), 0);
        x.limit(2, 1);
        x.reserve(2, 0);
        check.equal("then not", x.move(1024, 2), 1);
        x.sell(1024);
        x.reserve(2, 1);
        check.throwing("a reserved one is not taken", Check.UNSUPPORTED, () -> x.move(1026, 2));
        check.equal("refused", x.refused(), 2);
    }

    private static void moveThrowsInOrder() {
        check.scene("10 move, wrong inputs");
        PageBanks x = new PageBanks();
        x.bank(0, 0);
        x.bank(0, 9);
        x.buyRun(2, 2);
        x.buy(0);
        x.freeze(1, true);
        check.throwing("dead first", Check.DEAD, () -> x.move(2049, 7));
        check.throwing("then weak", Check.ARGUMENT, () -> x.move(1025, 7));
        check.throwing("then the bank", Check.INDEX, () -> x.move(1024, 7));
        check.throwing("bank -1", Check.INDEX, () -> x.move(1024, -1));
        check.throwing("then its state", Check.STATE, () -> x.move(1024, 1));
        x.destroy(2);
        check.throwing("to a dying bank", Check.STATE, () -> x.move(1028, 2));
        check.throwing("out of a dying bank", Check.DEAD, () -> x.move(1024, 0));
        check.equal("refused", x.refused(), NONE);
    }

    private static void limitIsSet() {
        check.scene("11 limit");
        PageBanks x = new PageBanks();
        x.bank(0, 5);
        x.bank(1, 5);
        check.equal("limit(1, 192)", x.limit(1, 192), 5);
        check.equal("limit(1, 0)", x.limit(1, 0), 192);
        check.equal("limit(1, 3)", x.limit(1, 3), 0);
        x.reserve(2, 1);
        x.buy(2);
        x.reserve(2, 2);
        check.throwing("below the use", Check.STATE, () -> x.limit(1, 2));
        check.equal("what it is", x.told(1, 3), 3);
        check.equal("the use itself", x.limit(1, 3), 3);
        for (int n : NO_LIMITS) {
            check.throwing("limit(1, " + n + ")", Check.ARGUMENT, () -> x.limit(1, n));
            check.throwing("no bank", Check.INDEX, () -> x.limit(3, n));
        }
        check.throwing("the root", Check.ARGUMENT, () -> x.limit(0, 192));
        x.freeze(2, true);
        check.equal("frozen", x.limit(2, 9), 5);
        x.destroy(2);
        check.throwing("dying", Check.STATE, () -> x.limit(2, 9));
        check.throwing("dying, wrong n", Check.ARGUMENT, () -> x.limit(2, 193));
    }

    private static void reserveRaisesUse() {
        check.scene("12 reserve");
        PageBanks x = new PageBanks();
        x.bank(0, 10);
        x.bank(1, 8);
        check.equal("reserve(2, 3)", x.reserve(2, 3), 3);
        check.equal("reserve(2, 5)", x.reserve(2, 5), 8);
        check.equal("reserve(2, 0)", x.reserve(2, 0), 8);
        tellsAll(x, 2, 8, 0, 8);
        tellsAll(x, 1, 8, 0, 0);
        tellsAll(x, 0, 8, 0, 0);
        check.throwing("one too many", Check.UNSUPPORTED, () -> x.reserve(2, 1));
        check.equal("refused", x.refused(), 2);
        check.throwing("three too many", Check.UNSUPPORTED, () -> x.reserve(1, 3));
        check.equal("refused", x.refused(), 1);
        check.throwing("185 too many", Check.UNSUPPORTED, () -> x.reserve(0, 185));
        check.equal("refused", x.refused(), 0);
        check.equal("all", x.reserve(0, 184), 184);
        check.equal("no place is taken", x.count(0), 192);
        for (int n : NO_LIMITS) {
            check.throwing("reserve(1, " + n + ")", Check.ARGUMENT, () -> x.reserve(1, n));
            check.throwing("no bank", Check.INDEX, () -> x.reserve(3, n));
        }
        x.freeze(1, true);
        check.throwing("frozen, wrong n", Check.ARGUMENT, () -> x.reserve(1, 193));
        check.throwing("frozen, refused too", Check.STATE, () -> x.reserve(1, 192));
        check.throwing("frozen, none", Check.STATE, () -> x.reserve(1, 0));
        x.buy(2);
        x.destroy(2);
        check.throwing("dying", Check.STATE, () -> x.reserve(2, 0));
        check.equal("refused", x.refused(), 0);
    }

    private static void unreserveLowersUse() {
        check.scene("13 unreserve");
        PageBanks x = new PageBanks();
        x.bank(0, 10);
        x.bank(1, 10);
        x.reserve(2, 6);
        check.equal("unreserve(2, 2)", x.unreserve(2, 2), 4);
        check.equal("unreserve(2, 0)", x.unreserve(2, 0), 4);
        tellsAll(x, 2, 4, 0, 4);
        tellsAll(x, 1, 4, 0, 0);
        tellsAll(x, 0, 4, 0, 0);
        for (int n : new int[] {-1, 5, Integer.MIN_VALUE, Integer.MAX_VALUE}) {
            check.throwing("unreserve(2, " + n + ")", Check.ARGUMENT, () -> x.unreserve(2, n));
            check.throwing("no bank", Check.INDEX, () -> x.unreserve(3, n));
        }
        x.freeze(2, true);
        check.equal("frozen", x.unreserve(2, 1), 3);
        check.equal("all", x.unreserve(2, 3), 0);
        x.freeze(2, false);
        x.buy(2);
        x.reserve(2, 2);
        x.destroy(2);
        check.equal("dying", x.unreserve(2, 0), 0);
        check.throwing("dying, one", Check.ARGUMENT, () -> x.unreserve(2, 1));
    }

    private static void freezeStopsGettingPages() {
        check.scene("14 freeze");
        PageBanks x = new PageBanks();
        x.bank(0, 10);
        x.bank(1, 10);
        x.buy(1);
        check.equal("live to live", x.freeze(1, false), false);
        check.equal("live to frozen", x.freeze(1, true), false);
        check.equal("state", x.told(1, 6), 1);
        check.equal("frozen to frozen", x.freeze(1, true), true);
        check.equal("its child is live", x.told(2, 6), 0);
        check.equal("its child buys", x.buy(2), 1026);
        check.equal("its keys are alive", x.isAlive(1024), true);
        check.equal("frozen to live", x.freeze(1, false), true);
        check.equal("state", x.told(1, 6), 0);
        check.equal("it buys again", x.buy(1), 1028);
        check.throwing("the root", Check.ARGUMENT, () -> x.freeze(0, true));
        check.throwing("the root", Check.ARGUMENT, () -> x.freeze(0, false));
        check.throwing("no bank", Check.INDEX, () -> x.freeze(3, true));
        check.throwing("no bank", Check.INDEX, () -> x.freeze(-1, true));
        x.freeze(2, true);
        x.destroy(1);
        check.throwing("dying", Check.STATE, () -> x.freeze(1, false));
        check.throwing("dying, frozen before", Check.STATE, () -> x.freeze(2, true));
        check.equal("state", x.told(2, 6), 2);
    }

    private static void destroyKillsKeysAtOnce() {
        check.scene("15 destroy");
        PageBanks x = new PageBanks();
        x.bank(0, 20);
        x.bank(1, 20);
        x.bank(0, 20);
        x.buyRun(1, 2);
        x.buyRun(2, 3);
        x.buy(3);
        x.reserve(1, 1);
        x.reserve(2, 4);
        x.freeze(2, true);
        check.equal("destroy(1)", x.destroy(1), 5);
        tellsAll(x, 1, 5, 2, 0, 20, 0, 1, 2, 2);
        tellsAll(x, 2, 3, 3, 0, 20, 1, 2, 2, 1);
        tellsAll(x, 0, 6, 0, 0, 192, NONE, 0, 0, 4);
        for (int key = 1024; key < 1024 + 2 * 5; key++) {
            check.equal("isAlive(" + key + ")", x.isAlive(key), false);
        }
        check.equal("another bank's key", x.isAlive(1034), true);
        check.equal("the pages are there", x.count(2), 6);
        check.throwing("read", Check.DEAD, () -> x.read(1024, 0));
        check.throwing("owner", Check.DEAD, () -> x.owner(1024));
        check.throwing("weak", Check.DEAD, () -> x.weak(1024));
        check.throwing("dying", Check.STATE, () -> x.destroy(1));
        check.throwing("dying with it", Check.STATE, () -> x.destroy(2));
        check.throwing("the root", Check.ARGUMENT, () -> x.destroy(0));
        check.throwing("no bank", Check.INDEX, () -> x.destroy(4));
        check.throwing("no bank", Check.INDEX, () -> x.destroy(-1));
    }

    private static void destroyCountsAllDyingPages() {
        check.scene("15 destroy, twice");
        PageBanks x = new PageBanks();
        x.bank(0, 20);
        x.bank(1, 20);
        x.bank(0, 20);
        x.buyRun(1, 2);
        x.buyRun(2, 3);
        x.buyRun(3, 4);
        check.equal("a child first", x.destroy(2), 3);
        check.equal("its parent is live", x.told(1, 6), 0);
        check.equal("another one", x.destroy(3), 7);
        check.equal("then the parent", x.destroy(1), 9);
        check.equal("pages", x.told(0, 0), 9);
    }

    private static void destroyedBanksGoWhenEmpty() {
        check.scene("15 destroy, empty banks");
        PageBanks x = new PageBanks();
        x.bank(0, 20);
        x.bank(1, 20);
        x.bank(2, 20);
        x.bank(2, 20);
        x.reserve(3, 5);
        x.buy(4);
        check.equal("destroy(2)", x.destroy(2), 1);
        check.throwing("an empty one is gone", Check.INDEX, () -> x.told(3, 0));
        check.equal("a parent stays", x.told(2, 1), 0);
        check.equal("banks", x.count(3), 4);
        check.equal("nothing is reserved", x.told(0, 0), 1);
        PageBanks y = new PageBanks();
        y.bank(0, 20);
        y.bank(1, 20);
        y.bank(2, 20);
        y.reserve(2, 3);
        y.buy(0);
        check.equal("all empty", y.destroy(1), 0);
        check.equal("all gone", y.count(3), 1);
        check.equal("use", y.told(0, 0), 1);
        check.equal("children above parents by number", y.bank(0, 1), 1);
        y.bank(0, 1);
        y.handUp(1);
        y.bank(2, 1);
        check.equal("parent 2, child 1", y.told(1, 4), 2);
        y.destroy(2);
        check.equal("both gone", y.count(3), 1);
    }

    private static void workFreesLeastPlacesFirst() {
        check.scene("16 work");
        PageBanks x = new PageBanks();
        x.bank(0, 20);
        x.bank(0, 20);
        x.buyRun(1, 2);
        x.buyRun(2, 2);
        x.buy(0);
        x.buyRun(1, 2);
        check.equal("nothing is dying", x.work(192), 0);
        check.equal("nothing went", x.count(2), 7);
        x.destroy(2);
        check.equal("both", x.destroy(1), 6);
        check.equal("work(0)", x.work(0), 6);
        check.equal("work(3)", x.work(3), 3);
        check.equal("bank 1 has its last two", x.told(1, 1), 2);
        check.equal("bank 2 has one", x.told(2, 1), 1);
        check.equal("use of the root", x.told(0, 0), 4);
        check.equal("the places are free", x.buy(0), 2048);
        check.equal("the least one", x.buyRun(0, 2), 2050);
        check.equal("more than there are", x.work(192), 0);
        check.equal("pages", x.count(2), 4);
        check.equal("the root's page lives", x.isAlive(1032), true);
        for (int n : NO_LIMITS) {
            check.throwing("work(" + n + ")", Check.ARGUMENT, () -> x.work(n));
        }
        PageBanks y = new PageBanks();
        for (int i = 0; i < 6; i++) {
            y.sell(y.buy(0));
        }
        y.bank(0, 1);
        check.equal("version 7", y.buy(1), 7168);
        y.destroy(1);
        check.equal("not retired yet", y.count(1), 0);
        y.work(1);
        check.equal("retired", y.count(1), 1);
    }

    private static void workLetsBanksGo() {
        check.scene("16 work, banks go");
        PageBanks x = new PageBanks();
        x.bank(0, 20);
        x.bank(1, 20);
        x.bank(2, 20);
        x.buy(3);
        x.buy(1);
        x.buy(2);
        x.destroy(1);
        check.equal("the deepest goes", x.work(1), 2);
        check.throwing("told(3, 0)", Check.INDEX, () -> x.told(3, 0));
        check.equal("a page less, a parent still", x.work(1), 1);
        check.equal("told(1, 1)", x.told(1, 1), 0);
        check.equal("banks", x.count(3), 3);
        check.equal("both go", x.work(1), 0);
        check.equal("banks", x.count(3), 1);
        PageBanks y = new PageBanks();
        y.bank(0, 20);
        y.bank(1, 20);
        y.buy(1);
        y.buy(2);
        y.destroy(2);
        check.equal("below a live bank", y.work(1), 0);
        check.equal("that stays", y.told(1, 7), 1);
        check.equal("with its page", y.isAlive(1024), true);
    }

    private static void handUpGivesAllToParent() {
        check.scene("17 handUp");
        PageBanks x = new PageBanks();
        x.bank(0, 20);
        x.bank(1, 20);
        x.bank(2, 20);
        x.bank(3, 7);
        x.buyRun(2, 2);
        x.buyRun(1, 2);
        x.buy(2);
        x.buy(3);
        x.move(1024, 2);
        x.reserve(1, 2);
        x.reserve(2, 3);
        check.equal("handUp(2)", x.handUp(2), 3);
        int[] order = {1028, 1030, 1026, 1032, 1024};
        for (int k = 0; k < order.length; k++) {
            check.equal("page(1, " + k + ")", x.page(1, k), order[k]);
            check.equal("owner", x.owner(order[k]), 1);
        }
        tellsAll(x, 1, 11, 5, 5, 20, 0, 1, 0, 3);
        tellsAll(x, 3, 1, 1, 0, 20, 1, 2, 0, 2);
        tellsAll(x, 4, 0, 0, 0, 7, 3, 3, 0, 1);
        tellsAll(x, 0, 11, 0, 0, 192, NONE, 0, 0, 4);
        check.throwing("it is gone", Check.INDEX, () -> x.handUp(2));
        check.throwing("no bank", Check.INDEX, () -> x.handUp(-1));
        check.throwing("the root", Check.ARGUMENT, () -> x.handUp(0));
        check.equal("to the root", x.handUp(1), 5);
        tellsAll(x, 0, 11, 5, 5, 192, NONE, 0, 0, 3);
        check.equal("a bank without pages", x.handUp(4), 0);
    }

    private static void handUpOfFrozenAndDying() {
        check.scene("17 handUp, states");
        PageBanks x = new PageBanks();
        x.bank(0, 20);
        x.bank(1, 20);
        x.bank(2, 20);
        x.buy(2);
        x.buyRun(3, 2);
        x.freeze(1, true);
        x.freeze(2, true);
        x.destroy(3);
        check.throwing("dying", Check.STATE, () -> x.handUp(3));
        check.equal("frozen, into a frozen one", x.handUp(2), 1);
        tellsAll(x, 3, 2, 2, 0, 20, 1, 2, 2, 1);
        tellsAll(x, 1, 3, 1, 0, 20, 0, 1, 1, 2);
        check.equal("the dying child goes on", x.work(2), 0);
        tellsAll(x, 1, 1, 1, 0, 20, 0, 1, 1, 1);
    }

    private static void toldOfBanks() {
        check.scene("18 told");
        PageBanks x = new PageBanks();
        x.bank(0, 50);
        x.bank(1, 40);
        x.bank(1, 30);
        x.bank(3, 20);
        x.buyRun(1, 2);
        x.buyRun(4, 3);
        x.reserve(3, 4);
        x.reserve(1, 1);
        x.freeze(3, true);
        tellsAll(x, 0, 10, 0, 0, 192, NONE, 0, 0, 5);
        tellsAll(x, 1, 10, 2, 1, 50, 0, 1, 0, 4);
        tellsAll(x, 2, 0, 0, 0, 40, 1, 2, 0, 1);
        tellsAll(x, 3, 7, 0, 4, 30, 1, 2, 1, 2);
        tellsAll(x, 4, 3, 3, 0, 20, 3, 3, 0, 1);
        for (int what : new int[] {-1, 8, Integer.MIN_VALUE, Integer.MAX_VALUE}) {
            check.throwing("told(0, " + what + ")", Check.ARGUMENT, () -> x.told(0, what));
            check.throwing("told(5, " + what + ")", Check.INDEX, () -> x.told(5, what));
        }
        check.throwing("told(-1, 0)", Check.INDEX, () -> x.told(-1, 0));
    }

    private static void pageOfBanks() {
        check.scene("19 page");
        PageBanks x = new PageBanks();
        x.bank(0, 50);
        x.buyRun(1, 2);
        x.buy(0);
        check.equal("page(0, 0)", x.page(0, 0), 1028);
        check.equal("page(1, 1)", x.page(1, 1), 1026);
        for (int k : new int[] {-1, 2, Integer.MIN_VALUE, Integer.MAX_VALUE}) {
            check.throwing("page(1, " + k + ")", Check.INDEX, () -> x.page(1, k));
        }
        check.throwing("no bank", Check.INDEX, () -> x.page(2, 0));
        check.throwing("no bank", Check.INDEX, () -> x.page(-1, 0));
        x.destroy(1);
        check.equal("dying", x.page(1, 1), 0);
        check.throwing("dying, no such page", Check.INDEX, () -> x.page(1, 2));
        check.throwing("dying, no such page", Check.INDEX, () -> x.page(1, -1));
        x.work(1);
        check.equal("one is left", x.page(1, 0), 0);
        check.throwing("no second one", Check.INDEX, () -> x.page(1, 1));
    }

    private static void ownerOfPages() {
        check.scene("20 owner");
        PageBanks x = new PageBanks();
        x.bank(0, 50);
        x.buy(1);
        x.buy(0);
        check.equal("owner(1024)", x.owner(1024), 1);
        check.equal("by a weak key", x.owner(1025), 1);
        check.equal("the root's", x.owner(1026), 0);
        check.throwing("never bought", Check.DEAD, () -> x.owner(1028));
        x.destroy(1);
        check.throwing("in a dying bank", Check.DEAD, () -> x.owner(1024));
    }

    private static void isAliveOfAnyInt() {
        check.scene("21 isAlive");
        PageBanks x = new PageBanks();
        fill(x, 192);
        check.equal("isAlive(1024)", x.isAlive(1024), true);
        check.equal("weak", x.isAlive(1025), true);
        check.equal("the last", x.isAlive(1024 + 2 * 191 + 1), true);
        int[] dead = {0, 1, 1023, 1024 + 2 * 192, 1024 + 2 * 192 + 1, 1024 + 512, 2047, 2048, 8192,
            -1, -1024, -1023, -2048, Integer.MIN_VALUE, Integer.MIN_VALUE + 1024,
            Integer.MAX_VALUE, 1024 + (1 << 20), 1024 - (1 << 20)};
        for (int key : dead) {
            check.equal("isAlive(" + key + ")", x.isAlive(key), false);
            check.throwing("read(" + key + ", 0)", Check.DEAD, () -> x.read(key, 0));
        }
        x.sell(1024);
        check.equal("sold", x.isAlive(1024), false);
        x.buy(0);
        check.equal("sold, another one there", x.isAlive(1024), false);
        check.equal("that other one", x.isAlive(2048), true);
        check.equal("version 0 of a free place", new PageBanks().isAlive(0), false);
    }

    private static void refusedStaysUntilTheNext() {
        check.scene("22 refused");
        PageBanks x = new PageBanks();
        check.equal("at first", x.refused(), NONE);
        x.bank(0, 1);
        x.bank(1, 9);
        check.throwing("refused", Check.UNSUPPORTED, () -> x.buyRun(2, 2));
        check.equal("refused", x.refused(), 1);
        x.buy(0);
        check.equal("stays after an answer", x.refused(), 1);
        check.throwing("another exception", Check.INDEX, () -> x.buy(3));
        check.equal("stays after that", x.refused(), 1);
        x.handUp(1);
        check.equal("stays when the bank is gone", x.refused(), 1);
        check.throwing("by another one", Check.UNSUPPORTED, () -> x.reserve(2, 10));
        check.equal("refused", x.refused(), 2);
        check.throwing("by the root", Check.UNSUPPORTED, () -> x.reserve(0, 192));
        check.equal("refused", x.refused(), 0);
    }

    private static void countOfAll() {
        check.scene("23 count");
        PageBanks x = new PageBanks();
        retire(x, 0);
        x.bank(0, 30);
        x.buyRun(1, 16);
        x.buy(0);
        x.reserve(0, 5);
        check.equal("free", x.count(0), 192 - 1 - 17);
        check.equal("retired", x.count(1), 1);
        check.equal("pages", x.count(2), 17);
        check.equal("banks", x.count(3), 2);
        x.destroy(1);
        check.equal("dying pages are there", x.count(2), 17);
        check.equal("a dying bank too", x.count(3), 2);
        x.work(16);
        check.equal("free", x.count(0), 190);
        check.equal("pages", x.count(2), 1);
        check.equal("banks", x.count(3), 1);
        for (int what : new int[] {-1, 4, Integer.MIN_VALUE, Integer.MAX_VALUE}) {
            check.equal("count(" + what + ")", x.count(what), NONE);
        }
    }

    private static void astrayIsNone() {
        check.scene("24 astray");
        PageBanks x = new PageBanks();
        x.bank(0, 50);
        x.bank(1, 50);
        x.bank(2, 50);
        x.buyRun(2, 5);
        x.buyRun(3, 5);
        x.reserve(2, 5);
        check.equal("after buying", x.astray(), 0);
        x.sell(1024);
        x.move(1026, 1);
        check.equal("after selling and moving", x.astray(), 0);
        check.throwing("refused", Check.UNSUPPORTED, () -> x.reserve(2, 192));
        check.equal("after a refusal", x.astray(), 0);
        x.destroy(3);
        x.handUp(2);
        check.equal("after handing up", x.astray(), 0);
        x.work(3);
        check.equal("while banks are dying", x.astray(), 0);
        x.work(9);
        check.equal("when they are gone", x.astray(), 0);
        x.limit(1, x.told(1, 0));
        check.equal("at a limit", x.astray(), 0);
    }
}
