/** The sentence on exceptions: each call that is refused, by which exception, and what it must leave as it was. */
public final class RefusedTest {
    private static final int[] NONE_OF_THREE = {-1, 3, 8, -8, Integer.MIN_VALUE, Integer.MAX_VALUE};

    public static void main(String[] args) {
        noSuchWoman();
        noSuchThing();
        onACoastWithout();
        noSuchElement();
        indexToldFirst();
        numberAheadOfState();
        wrongTextToldFirst();
        changesNothing();
        usesUpTheTape();
        Check.end();
    }

    private static BorrowedLuck three() {
        BorrowedLuck x = Check.coast(Check.THREE, "flow 3;wear 2;stick if blue");
        x.wed(2, 2);
        x.image();
        return x;
    }

    private static void noWoman(BorrowedLuck x, int w) {
        Check.noSuch("woman(" + w + ", 0)", () -> x.woman(w, 0));
        Check.noSuch("gain(" + w + ", 0)", () -> x.gain(w, 0));
        Check.noSuch("flows(" + w + ", 0, 0)", () -> x.flows(w, 0, 0));
        Check.noSuch("lend(0, " + w + ")", () -> x.lend(0, w));
        Check.noSuch("wed(" + w + ", 0)", () -> x.wed(w, 0));
        Check.noSuch("widow(" + w + ", true)", () -> x.widow(w, true));
        Check.noSuch("widow(" + w + ", false)", () -> x.widow(w, false));
        Check.noSuch("best(" + w + ")", () -> x.best(w));
        Check.noSuch("reach(" + w + ", 0, 0, 1)", () -> x.reach(w, 0, 0, 1));
        Check.noSuch("since(" + w + ", 0)", () -> x.since(w, 0));
        Check.noSuch("since(0, " + w + ")", () -> x.since(0, w));
        Check.noSuch("rests(" + w + ", 0, 0)", () -> x.rests(w, 0, 0));
        Check.noSuch("rests(0, " + w + ", 0)", () -> x.rests(0, w, 0));
        Check.noSuch("ring(" + w + ")", () -> x.ring(w));
        Check.noSuch("share(" + w + ", 0)", () -> x.share(w, 0));
        Check.noSuch("led(" + w + ", false)", () -> x.led(w, false));
        Check.noSuch("led(" + w + ", true)", () -> x.led(w, true));
    }

    private static void noThing(BorrowedLuck x, int t) {
        Check.noSuch("thing(" + t + ", 0)", () -> x.thing(t, 0));
        Check.noSuch("gain(0, " + t + ")", () -> x.gain(0, t));
        Check.noSuch("flows(0, " + t + ", 0)", () -> x.flows(0, t, 0));
        Check.noSuch("lend(" + t + ", 0)", () -> x.lend(t, 0));
        Check.noSuch("wed(0, " + t + ")", () -> x.wed(0, t));
        Check.noSuch("pawn(" + t + ")", () -> x.pawn(t));
        Check.noSuch("redeem(" + t + ")", () -> x.redeem(t));
        Check.noSuch("cut(" + t + ")", () -> x.cut(t));
        Check.noSuch("order(" + t + ", 1, -1)", () -> x.order(t, 1, -1));
        Check.noSuch("lowest(" + t + ", 1)", () -> x.lowest(t, 1));
        Check.noSuch("reach(0, " + t + ", 0, 1)", () -> x.reach(0, t, 0, 1));
        Check.noSuch("chain(" + t + ")", () -> x.chain(t));
        Check.noSuch("rests(0, 1, " + t + ")", () -> x.rests(0, 1, t));
        Check.noSuch("runs(" + t + ", 0)", () -> x.runs(t, 0));
        Check.noSuch("spent(" + t + ")", () -> x.spent(t));
    }

    private static void noSuchWoman() {
        Check.says("IndexOutOfBoundsException: there is no such WOMAN, THING, SORT.");
        BorrowedLuck x = three();
        String was = Check.seen(x);
        for (int w : NONE_OF_THREE) {
            noWoman(x, w);
        }
        Check.same("behind all", Check.seen(x), was);
    }

    private static void noSuchThing() {
        Check.says("IndexOutOfBoundsException: there is no such WOMAN, THING, SORT.");
        BorrowedLuck x = three();
        String was = Check.seen(x);
        for (int t : NONE_OF_THREE) {
            noThing(x, t);
        }
        Check.same("behind all", Check.seen(x), was);
    }

    private static void onACoastWithout() {
        Check.says("A coast without WOMEN.");
        BorrowedLuck x = new BorrowedLuck();
        String was = Check.seen(x);
        noWoman(x, 0);
        noThing(x, 0);
        Check.same("behind all", Check.seen(x), was);
        BorrowedLuck without = Check.coast("woman 1 1 1 1 purse 1;woman 1 1 1 1 purse 1");
        noThing(without, 0);
        Check.due("a woman there is", without.woman(1, 9), 4);
    }

    private static void noSuchElement() {
        Check.says("NoSuchElementException: another what.");
        BorrowedLuck x = three();
        int[] none = {-1, 10, 11, Integer.MIN_VALUE, Integer.MAX_VALUE};
        for (int what : none) {
            Check.noElement("woman(0, " + what + ")", () -> x.woman(0, what));
            Check.noElement("thing(0, " + what + ")", () -> x.thing(0, what));
        }
        int[] noneOfLog = {-1, 4, 5, Integer.MIN_VALUE, Integer.MAX_VALUE};
        for (int what : noneOfLog) {
            Check.noElement("log(0, " + what + ")", () -> x.log(0, what));
            Check.noElement("log without a row, " + what, () -> x.log(1, what));
            Check.noElement("log of a new object, " + what, () -> new BorrowedLuck().log(0, what));
        }
        Check.due("the last what of a woman", x.woman(0, 9), 100);
        Check.due("the last what of a thing", x.thing(0, 9), 80);
        Check.due("the last what of a row", x.log(0, 3), 0);
    }

    private static void indexToldFirst() {
        Check.says("Of several exceptions the one told first is thrown");
        BorrowedLuck x = three();
        Check.noSuch("woman, and what", () -> x.woman(3, 10));
        Check.noSuch("thing, and what", () -> x.thing(3, 10));
        Check.noSuch("lend: no woman, of a thing that is stuck", () -> x.lend(2, 3));
        Check.noSuch("wed: no woman, who holds nothing", () -> x.wed(3, 2));
        Check.noSuch("wed: no thing, which she does not hold", () -> x.wed(0, 3));
        Check.noSuch("order: no thing, of six and more", () -> x.order(3, -1, -1));
        Check.noSuch("lowest: no thing, of six and more", () -> x.lowest(3, -1));
        Check.noSuch("reach: no woman, and X", () -> x.reach(3, 0, 0, 0));
        Check.noSuch("reach: no thing, and X", () -> x.reach(0, 3, 0, 100));
        Check.noSuch("reach: no sort, and X", () -> x.reach(0, 0, 4, 0));
        Check.noSuch("since: both are one that there is not", () -> x.since(3, 3));
        Check.noSuch("rests: both are one that there is not", () -> x.rests(-1, -1, 0));
        Check.noSuch("rests: both are one, of no thing", () -> x.rests(1, 1, 3));
        Check.noSuch("runs: no thing, and N", () -> x.runs(3, 61));
        BorrowedLuck six = Check.coast("woman 1 1 1 1 purse 1;".repeat(6) + "thing 1 1 1 1 of 0");
        Check.noSuch("order: no thing, of six", () -> six.order(1, 63, -1));
        Check.noSuch("lowest: no thing, of six", () -> six.lowest(1, 63));
    }

    private static void numberAheadOfState() {
        Check.says("IllegalArgumentException: that one HOLDS it; IllegalStateException: it may not be.");
        BorrowedLuck x = three();
        Check.noNumber("stuck, and she holds it", () -> x.lend(2, 2));
        Check.cannotBe("stuck, and another one", () -> x.lend(2, 0));
        x.pawn(0);
        Check.cannotBe("pawned: none holds it", () -> x.lend(0, 0));
    }

    private static void wrongTextToldFirst() {
        Check.says("IllegalArgumentException: it is wrong; UnsupportedOperationException: there are 12.");
        BorrowedLuck x = new BorrowedLuck();
        for (int i = 0; i < 12; i++) {
            x.coast();
        }
        Check.tape(x, "x");
        Check.noNumber("wrong, and there are 12", x::coast);
        Check.due("its first wrong byte", x.fault(), 0);
        Check.fails("right, and there are 12", UnsupportedOperationException.class, x::coast);
        Check.due("it was read, without a wrong byte", x.fault(), -1);
    }

    private static void changesNothing() {
        Check.says("a call that throws changes nothing but the TAPE, where it is used up");
        BorrowedLuck x = three();
        Check.tape(x, "day 1000");
        Check.noNumber("a wrong text", x::coast);
        Check.refused(x, "lend", IndexOutOfBoundsException.class, () -> x.lend(3, 0));
        Check.refused(x, "lend to the holder", IllegalArgumentException.class, () -> x.lend(0, 0));
        Check.refused(x, "lend what is stuck", IllegalStateException.class, () -> x.lend(2, 0));
        Check.refused(x, "wed", IllegalStateException.class, () -> x.wed(1, 0));
        Check.refused(x, "pawn what another holds", IllegalStateException.class, () -> x.pawn(1));
        Check.refused(x, "pawn what is stuck", IllegalStateException.class, () -> x.pawn(2));
        Check.refused(x, "redeem", IllegalStateException.class, () -> x.redeem(0));
        Check.refused(x, "cut", IllegalStateException.class, () -> x.cut(0));
        Check.refused(x, "widow", IndexOutOfBoundsException.class, () -> x.widow(3, true));
        Check.refused(x, "days(0)", IllegalArgumentException.class, () -> x.days(0));
        Check.refused(x, "days(61)", IllegalArgumentException.class, () -> x.days(61));
        Check.due("what is remembered is the wedding", x.undo(), true);
        Check.due("it is undone", x.count(10), 0);
        Check.due("the image is kept", x.back(), true);
        Check.due("with the wedding", x.count(10), 1);
    }

    private static void usesUpTheTape() {
        Check.says("a call that throws changes nothing but the TAPE, where it is used up");
        BorrowedLuck x = three();
        String was = Check.seen(x);
        Check.tape(x, "x");
        Check.noNumber("coast", x::coast);
        Check.due("coast has used it up", x.end(1), false);
        Check.tape(x, "x");
        Check.noNumber("law", x::law);
        Check.due("law has used it up", x.end(1), false);
        Check.tape(x, "x");
        Check.noNumber("whose", x::whose);
        Check.due("whose has used it up", x.end(1), false);
        Check.tape(x, "x");
        Check.noNumber("next", x::next);
        Check.due("next has used it up", x.end(1), false);
        Check.same("all else is as it was", Check.seen(x), was);
        Check.due("the tape is empty: all of three", x.whose(), 7);
    }
}
