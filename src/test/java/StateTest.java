import java.util.NoSuchElementException;

/** Promises 7 to 9, 30, 31, 35 to 40 and 50: what WOMEN and THINGS have. */
public final class StateTest {
    public static void main(String[] args) {
        promise7Woman();
        promise8Thing();
        promise9Gain();
        promise30And31Luck();
        promise35To38Things();
        promise39Alike();
        promise40Share();
        promise50Count();
        Check.end();
    }

    private static void promise7Woman() {
        BorrowedLuck x = Check.coast(Check.THREE);
        int[][] due = {{10, 20, 30, 40, 50, 0, 0, 3, 1, 100}, {50, 0, 5, 9, 3, 2, 0, 0, 2, 64}, {0, 0, 0, 0, 20, 0, 1, 4, 4, 0}};
        for (int w = 0; w < 3; w++) {
            for (int what = 0; what < 10; what++) {
                Check.due("woman(" + w + ", " + what + ")", x.woman(w, what), due[w][what]);
            }
        }
        Check.noSuch("woman(3, 0)", () -> x.woman(3, 0));
        Check.noSuch("woman(-1, 10): the first told", () -> x.woman(-1, 10));
        Check.fails("woman(0, 10)", NoSuchElementException.class, () -> x.woman(0, 10));
        Check.fails("woman(0, -1)", NoSuchElementException.class, () -> x.woman(0, -1));
    }

    private static void promise8Thing() {
        BorrowedLuck x = Check.coast(Check.THREE, "flow 0;wear 60;stick");
        x.pawn(0);
        x.wed(0, 1);
        x.wed(0, 1);
        int[][] due = {{40, 40, 0, 0, 0, -1, 0, 0, 0, 80}, {10, 90, 10, 1, 1, 0, 99, 1, 0, 12}, {0, 0, 0, 0, 2, 2, 0, 0, 1, 0}};
        for (int t = 0; t < 3; t++) {
            for (int what = 0; what < 10; what++) {
                Check.due("thing(" + t + ", " + what + ")", x.thing(t, what), due[t][what]);
            }
        }
        x.wed(2, 2);
        Check.due("worth below 0", x.thing(2, 9), -61);
        Check.noSuch("thing(3, 0)", () -> x.thing(3, 0));
        Check.noSuch("thing(-1, 10): the first told", () -> x.thing(-1, 10));
        Check.fails("thing(0, 10)", NoSuchElementException.class, () -> x.thing(0, 10));
        Check.fails("thing(0, -1)", NoSuchElementException.class, () -> x.thing(0, -1));
    }

    private static void promise9Gain() {
        BorrowedLuck x = Check.coast(Check.THREE);
        int[][] due = {{0, -10, -35}, {-1, -2, -16}, {20, 20, 0}};
        for (int w = 0; w < 3; w++) {
            for (int t = 0; t < 3; t++) {
                Check.due("gain(" + w + ", " + t + ")", x.gain(w, t), due[w][t]);
            }
        }
        x.pawn(0);
        Check.due("whoever holds it", x.gain(2, 0), 20);
        Check.noSuch("gain of no woman", () -> x.gain(3, 0));
        Check.noSuch("gain of no thing", () -> x.gain(0, 3));
        BorrowedLuck odd = Check.coast("woman 0 9 0 0 purse 0;thing 7 0 0 0 of 0", "flow 60");
        Check.due("halves are rounded down on both ways: 3 - 4", odd.gain(0, 0), -1);
    }

    private static void promise30And31Luck() {
        BorrowedLuck x = Check.coast(Check.THREE);
        Check.due("unlucky", x.unlucky(), 2);
        int[] due = {1, 0, 0, 0};
        for (int s = 0; s < 4; s++) {
            Check.due("luckiest(" + s + ")", x.luckiest(s), due[s]);
        }
        Check.noSuch("luckiest(4)", () -> x.luckiest(4));
        Check.noSuch("luckiest(-1)", () -> x.luckiest(-1));
        BorrowedLuck two = Check.coast("woman 1 2 3 4 purse 0;woman 4 2 1 3 purse 0");
        Check.due("unlucky, the least of several", two.unlucky(), 0);
        Check.due("luckiest, the least of several", two.luckiest(1), 0);
        Check.due("luckiest", two.luckiest(0), 1);
        Check.due("unlucky of none", new BorrowedLuck().unlucky(), -1);
        Check.due("luckiest of none", new BorrowedLuck().luckiest(0), -1);
        Check.noSuch("luckiest of none and no sort", () -> new BorrowedLuck().luckiest(4));
    }

    private static void promise35To38Things() {
        BorrowedLuck x = Check.coast(Check.THREE, "flow 1;stick if blue;wear 4");
        Check.due("oldest", x.oldest(), 1);
        x.wed(2, 2);
        Check.due("oldest, the least of several", x.oldest(), 1);
        x.wed(2, 2);
        Check.due("oldest now", x.oldest(), 2);
        Check.due("stuck", x.stuck(), 4);
        Check.due("pawned by none", x.pawned(), 0);
        x.pawn(0);
        Check.due("pawned", x.pawned(), 1);
        Check.due("blue", x.blue(), 4);
        BorrowedLuck none = new BorrowedLuck();
        Check.due("oldest of none", none.oldest(), -1);
        Check.due("stuck of none", none.stuck() + none.pawned() + none.blue() + none.alike(), 0);
    }

    private static void promise39Alike() {
        BorrowedLuck x = Check.coast("woman 0 0 0 0 purse 0;thing 1 2 3 4 of 0;thing 1 2 3 4 of 0 worn 9 blue;"
                + "thing 1 2 3 5 of 0;thing 1 2 3 4 of 0;thing 4 3 2 1 of 0;thing 1 2 3 5 of 0");
        Check.due("alike", x.alike(), 4);
        Check.due("none alike", Check.coast(Check.THREE).alike(), 0);
    }

    private static void promise40Share() {
        BorrowedLuck x = Check.coast(Check.THREE);
        Check.due("50 of 60", x.share(1, 0), 83);
        Check.due("10 of 60", x.share(0, 0), 16);
        Check.due("20 of 20", x.share(0, 1), 100);
        Check.due("none of 60", x.share(2, 0), 0);
        Check.due("none of none", Check.coast("woman 0 1 1 1 purse 0").share(0, 0), 0);
        Check.noSuch("share of no woman", () -> x.share(3, 0));
        Check.noSuch("share of no sort", () -> x.share(0, 4));
    }

    private static void promise50Count() {
        BorrowedLuck x = Check.coast(Check.THREE, "flow 1;flow 2");
        x.days(3);
        x.wed(2, 2);
        int[] due = {3, 3, 1, 2, 3, 6, 20, x.woman(0, 9) + x.woman(1, 9) + x.woman(2, 9),
            x.thing(0, 9) + x.thing(1, 9) + x.thing(2, 9) + x.thing(0, 6) + x.thing(1, 6) + x.thing(2, 6), 4, 3, 2};
        for (int what = 0; what < due.length; what++) {
            Check.due("count(" + what + ")", x.count(what), due[what]);
        }
        Check.due("count(12)", x.count(12), -1);
        Check.due("count(-1)", x.count(-1), -1);
        BorrowedLuck plain = Check.coast(Check.THREE);
        Check.due("luck of all women", plain.count(7), 164);
        Check.due("luck of all things", plain.count(8), 191);
    }
}
