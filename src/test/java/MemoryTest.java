/** Promises 47 to 49: acts undone, THE IMAGE; and that a call that throws changes nothing. */
public final class MemoryTest {
    public static void main(String[] args) {
        promise47EachAct();
        promise47Twelve();
        promise47TextsForget();
        promise47AllIsAsAhead();
        promise48And49Image();
        promise49ForgetsActs();
        throwingChangesNothing();
        Check.end();
    }

    private static void act(BorrowedLuck x, int which) {
        switch (which) {
            case 0: x.lend(0, 1); break;
            case 1: x.wed(1, 0); break;
            case 2: x.lend(1, 1); break;
            case 3: x.pawn(1); break;
            case 4: x.redeem(1); break;
            case 5: x.wed(2, 2); break;
            case 6: x.cut(2); break;
            case 7: x.widow(0, true); break;
            case 8: x.widow(0, true); break;
            default: x.days(30);
        }
    }

    private static void promise47EachAct() {
        BorrowedLuck x = Check.coast(Check.THREE + ";price 1", "flow 3;stick if blue");
        String[] ahead = new String[10];
        for (int i = 0; i < 10; i++) {
            ahead[i] = Check.seen(x);
            act(x, i);
            Check.due("acts that can be undone", x.count(11), i + 1);
        }
        for (int i = 9; i >= 0; i--) {
            Check.due("undo of act " + i, x.undo(), true);
            Check.same("behind undo of act " + i, Check.seen(x), ahead[i]);
        }
        Check.due("none is left", x.undo(), false);
        Check.same("nothing happened", Check.seen(x), ahead[0]);
    }

    private static void promise47Twelve() {
        BorrowedLuck x = Check.coast(Check.THREE);
        x.wed(0, 0);
        for (int i = 0; i < 12; i++) {
            x.days(1);
        }
        Check.due("12 are remembered", x.count(11), 12);
        for (int i = 0; i < 12; i++) {
            Check.due("undo " + i, x.undo(), true);
            Check.due("days left", x.count(4), 11 - i);
        }
        Check.due("the wedding is not remembered", x.undo(), false);
        Check.due("it stays", x.count(10), 1);
        x.days(2);
        Check.due("one more act", x.count(11), 1);
    }

    private static void promise47TextsForget() {
        BorrowedLuck x = Check.coast(Check.THREE);
        x.widow(0, true);
        Check.tape(x, "day 1000");
        Check.noNumber("a wrong text", x::coast);
        Check.tape(x, "flow 61");
        Check.noNumber("a wrong law", x::law);
        Check.due("still remembered", x.count(11), 1);
        Check.tape(x, "day 9");
        x.coast();
        Check.due("forgotten by a text", x.count(11), 0);
        Check.due("none to be undone", x.undo(), false);
        Check.due("a widow still", x.woman(0, 6), 1);
        x.widow(0, false);
        Check.tape(x, "");
        x.law();
        Check.due("forgotten by a law", x.undo(), false);
    }

    private static void promise47AllIsAsAhead() {
        BorrowedLuck x = Check.coast(Check.THREE);
        String was = Check.seen(x);
        x.days(60);
        x.seed(123);
        x.image();
        Check.tape(x, "xy");
        Check.noNumber("a wrong text", x::coast);
        x.feed(1, 2, 3, 4, 5);
        Check.due("undo", x.undo(), true);
        Check.same("seed and log, too", Check.seen(x), was);
        Check.due("but for the tape", x.end(20), true);
        Check.due("but for fault()", x.fault(), 0);
        Check.due("but for the image", x.back(), true);
        Check.due("seed of the image", x.seed(1), 123);
    }

    private static void promise48And49Image() {
        BorrowedLuck x = Check.coast(Check.THREE);
        Check.due("no image", x.back(), false);
        x.image();
        String was = Check.seen(x);
        Check.tape(x, "flow 1;flow 2;stick");
        x.law();
        Check.tape(x, "woman 1 1 1 1 purse 1;thing 2 2 2 2 of 3;price 1;love 1;day 1");
        x.coast();
        x.days(60);
        x.seed(9);
        Check.tape(x, "tax");
        Check.noNumber("a wrong text", x::law);
        x.feed(1, 2, 3, 4, 5);
        Check.due("back", x.back(), true);
        Check.same("all is as it was", Check.seen(x), was);
        Check.due("no law again", x.flows(0, 0, 0), 10);
        Check.due("but for the tape", x.end(20), true);
        Check.due("but for fault()", x.fault(), 0);
        x.days(5);
        Check.due("back again", x.back(), true);
        Check.same("all is as it was again", Check.seen(x), was);
        Check.tape(x, "flow 4 if blue");
        x.law();
        x.image();
        Check.tape(x, "flow 7");
        x.law();
        x.back();
        Check.due("the law of the later image", x.flows(0, 2, 0), 4);
        Check.due("and its condition", x.flows(0, 0, 0), 0);
    }

    private static void promise49ForgetsActs() {
        BorrowedLuck x = Check.coast(Check.THREE);
        x.widow(0, true);
        x.image();
        Check.due("an image forgets none", x.count(11), 1);
        x.widow(1, true);
        x.back();
        Check.due("going back does", x.count(11), 0);
        Check.due("none to be undone", x.undo(), false);
        Check.due("widows of the image", x.count(9), 5);
    }

    private static void throwingChangesNothing() {
        BorrowedLuck x = Check.coast(Check.THREE, "flow 3;stick if blue");
        x.wed(2, 2);
        x.lend(0, 1);
        String was = Check.seen(x);
        x.feed(1, 2, 3, 4, 5);
        Check.cannotBe("lend", () -> x.lend(2, 0));
        Check.noNumber("lend", () -> x.lend(0, 1));
        Check.cannotBe("wed", () -> x.wed(0, 0));
        Check.cannotBe("pawn", () -> x.pawn(0));
        Check.cannotBe("pawn", () -> x.pawn(2));
        Check.cannotBe("redeem", () -> x.redeem(0));
        Check.cannotBe("cut", () -> x.cut(0));
        Check.noSuch("widow", () -> x.widow(8, true));
        Check.noNumber("days", () -> x.days(0));
        Check.same("behind all that was thrown", Check.seen(x), was);
        Check.due("the tape, which was not asked", x.end(20), true);
    }
}
