import java.lang.reflect.Field;
import java.lang.reflect.Method;

/**
 * A bound of the document that no run of calls can come to: 12 texts allow some 3400 in a PURSE, no more.
 * So this test alone looks inside; if the inside changes, it changes with it.
 */
public final class InsideTest {
    private static final int PURSE = 4;

    public static void main(String[] args) throws ReflectiveOperationException {
        Check.says("PURSE is PRICE more, 9999 at most");
        int[][] due = {{9948, 9998}, {9949, 9999}, {9950, 9999}, {9999, 9999}};
        for (int[] row : due) {
            BorrowedLuck x = Check.coast("woman 0 0 0 0 purse 0;thing 0 0 0 0 of 0;price 50");
            fill(x, row[0]);
            Check.due("pawn with " + row[0], x.pawn(0), row[1]);
            Check.due("purse of " + row[0], x.woman(0, PURSE), row[1]);
            Check.due("bought back", x.redeem(0), row[1] - 100);
        }
        Check.end();
    }

    private static void fill(BorrowedLuck x, int purse) throws ReflectiveOperationException {
        Field now = BorrowedLuck.class.getDeclaredField("now");
        now.setAccessible(true);
        Object coast = now.get(x);
        Method set = coast.getClass().getDeclaredMethod("setHer", int.class, int.class, int.class);
        set.setAccessible(true);
        set.invoke(coast, 0, PURSE, purse);
        Check.due("her purse", x.woman(0, PURSE), purse);
    }
}
