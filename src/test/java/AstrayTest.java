import java.lang.reflect.Field;

/**
 * No run of calls leaves anything astray, so the rows are spoiled behind the face's back: only
 * that shows that astray() looks at sums, rings and places.
 */
public final class AstrayTest {
    private static final Check check = new Check("AstrayTest");

    public static void main(String[] args) throws ReflectiveOperationException {
        spoiled("sums: a use that is no sum", "tree", "use", 2, 5, 2);
        spoiled("sums: a use above its limit", "tree", "limits", 2, 1, 1);
        spoiled("sums: reserved, but not used", "tree", "reserved", 3, 1, 1);
        spoiled("rings: a parent that is its child", "tree", "parent", 1, 2, 4);
        spoiled("places: a page of no bank", "store", "owners", 0, 30, 2);
        spoiled("places: a page that is not listed", "store", "owners", 9, 0, 2);
        spoiled("places: a page listed twice", "store", "order", 0, 1, 2);
        check.end();
    }

    private static void spoiled(String scene, String part, String row, int at, int with, int strays)
            throws ReflectiveOperationException {
        check.scene(scene);
        PageBanks x = new PageBanks();
        x.bank(0, 9);
        x.bank(1, 9);
        x.bank(2, 9);
        x.buyRun(2, 4);
        int[] numbers = (int[]) inside(inside(x, part), row);
        int before = numbers[at];
        check.equal("before", x.astray(), 0);
        numbers[at] = with;
        check.equal("spoiled", x.astray(), strays);
        numbers[at] = before;
        check.equal("mended", x.astray(), 0);
    }

    private static Object inside(Object object, String name) throws ReflectiveOperationException {
        Field field = object.getClass().getDeclaredField(name);
        field.setAccessible(true);
        return field.get(object);
    }
}
