import java.lang.reflect.Field;

/**
 * No run of calls leaves anything astray, so the rows are spoiled behind the face's back: only
 * that shows that astray() looks at sums, rings and places.
 */
public final class AstrayTest {
    /** Brings a new object into the state that is spoiled then. */
    private interface State {
        void reach(PageBanks x);
    }

    private static final Check check = new Check("AstrayTest");

    private final String scene;
    private final State state;

    private AstrayTest(String scene, State state) {
        this.scene = scene;
        this.state = state;
    }

    public static void main(String[] args) throws ReflectiveOperationException {
        new AstrayTest("a chain of banks", AstrayTest::chain).spoilChain();
        new AstrayTest("a full store", AstrayTest::fullStore).spoilFullStore();
        check.end();
    }

    private static void chain(PageBanks x) {
        x.bank(0, 9);
        x.bank(1, 9);
        x.bank(2, 9);
        x.buyRun(2, 4);
        x.reserve(2, 2);
    }

    /** 40 banks and 192 pages: the root has those at 0 .. 175, bank 39 the others. */
    private static void fullStore(PageBanks x) {
        for (int bank = 1; bank <= 39; bank++) {
            x.bank(0, 192);
        }
        for (int run = 0; run < 11; run++) {
            x.buyRun(0, 16);
        }
        x.buyRun(39, 16);
    }

    private void spoilChain() throws ReflectiveOperationException {
        spoil("sums: a use that is no sum", "tree", "use", 2, 5, 2);
        spoil("sums: a use at its limit", "tree", "limits", 2, 6, 0);
        spoil("sums: a use above its limit", "tree", "limits", 2, 5, 1);
        spoil("sums: reserved, but not used", "tree", "reserved", 3, 1, 1);
        spoil("rings: a parent that is its child", "tree", "parent", 1, 2, 4);
        spoil("places: a page of no bank", "store", "owners", 0, 30, 2);
        spoil("places: a page that is not listed", "store", "owners", 9, 0, 2);
        spoil("places: a page listed twice", "store", "order", 0, 1, 2);
    }

    private void spoilFullStore() throws ReflectiveOperationException {
        spoil("sums: the root's use", "tree", "use", 0, 191, 1);
        spoil("sums: the last bank's use", "tree", "use", 39, 15, 2);
        spoil("sums: the root's limit", "tree", "limits", 0, 191, 1);
        spoil("sums: reserved by the root", "tree", "reserved", 0, 1, 1);
        spoil("rings: a bank that is its own parent", "tree", "parent", 39, 39, 2);
        spoil("places: the first page is another bank's", "store", "owners", 0, 38, 2);
        spoil("places: the last page is another bank's", "store", "owners", 191, 0, 2);
        spoil("places: the first page is no bank's", "store", "owners", 0, 40, 2);
        spoil("places: the last page is no bank's", "store", "owners", 191, 40, 2);
        spoil("places: the first one is listed twice", "store", "order", 191, 0, 2);
        spoil("places: the last one is listed twice", "store", "order", 0, 191, 2);
    }

    private void spoil(String how, String part, String row, int at, int with, int strays)
            throws ReflectiveOperationException {
        check.scene(scene + ", " + how);
        PageBanks x = new PageBanks();
        state.reach(x);
        int[] numbers = (int[]) inside(inside(x, part), row);
        int before = numbers[at];
        check.equal("before", x.astray(), 0);
        numbers[at] = with;
        check.equal("spoiled", x.astray(), strays);
        numbers[at] = before;
        check.equal("mended", x.astray(), 0);
    }

    private static Object inside(Object object, String name) throws ReflectiveOperationException {
        Field field = object.getClass().getDeclaredField(name);
        field.setAccessible(true);
        return field.get(object);
    }
}
