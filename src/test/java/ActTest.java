/** Promises 11 to 16, 22, 23, 44 and 45: acts by hand, and THE LOG. */
public final class ActTest {
    public static void main(String[] args) {
        promise11Lend();
        promise11Widows();
        promise12Wed();
        promise12WedByLaw();
        promise12Edges();
        promise13Pawn();
        promise14Redeem();
        promise15Cut();
        promise16Widow();
        promise22And23Log();
        promise44And45Log();
        promise45SixtyRows();
        Check.end();
    }

    private static void promise11Lend() {
        BorrowedLuck x = Check.coast(Check.THREE, "flow 1;stick if woman > 0");
        Check.due("who held it", x.lend(0, 1), 0);
        Check.due("who holds it", x.thing(0, 5), 1);
        Check.due("its owner stays", x.thing(0, 4), 0);
        Check.noNumber("she holds it", () -> x.lend(0, 1));
        Check.noSuch("no thing", () -> x.lend(3, 1));
        Check.noSuch("no woman", () -> x.lend(0, 3));
        x.lend(0, 0);
        x.pawn(0);
        Check.cannotBe("it is pawned", () -> x.lend(0, 0));
        x.lend(1, 1);
        x.wed(1, 1);
        Check.cannotBe("it is stuck", () -> x.lend(1, 0));
        Check.noNumber("stuck, but she holds it", () -> x.lend(1, 1));
    }

    private static void promise11Widows() {
        BorrowedLuck x = Check.coast(Check.THREE);
        Check.due("a widow lends her own", x.lend(2, 0), 2);
        Check.due("to a widow", x.lend(1, 2), 0);
        Check.cannotBe("a widow holds out", () -> x.lend(1, 0));
        Check.due("but to its owner it goes", x.lend(1, 1), 2);
    }

    private static void promise12Wed() {
        BorrowedLuck x = Check.coast(Check.THREE);
        Check.cannotBe("she does not hold it", () -> x.wed(1, 1));
        Check.noSuch("no woman", () -> x.wed(3, 0));
        Check.noSuch("no thing", () -> x.wed(0, 3));
        Check.due("gain", x.wed(0, 0), 0);
        int[] her = {20, 30, 20, 30, 50, 1};
        int[] its = {30, 30, 10, 10, 0, 0, 1, 0};
        for (int what = 0; what < her.length; what++) {
            Check.due("woman(0, " + what + ") then", x.woman(0, what), her[what]);
        }
        for (int what = 0; what < its.length; what++) {
            Check.due("thing(0, " + what + ") then", x.thing(0, what), its[what]);
        }
        x.pawn(0);
        Check.cannotBe("it is pawned", () -> x.wed(0, 0));
    }

    private static void promise12WedByLaw() {
        BorrowedLuck x = Check.coast("woman 0 9 50 0 purse 0 wed 8;thing 21 0 50 30 of 0",
                "flow 5;flow 10 if sort > 2;wear 3 if sort < 1;wear 30 if sort > 0;stick if wed > 8;stick if has > 4");
        Check.due("5 of 10, 4 of 4, 0, 15 of 15", x.wed(0, 0), 5 - 4 + 15);
        Check.due("wear by sort 0", x.thing(0, 6), 4);
        Check.due("sticks as it was ahead", x.thing(0, 7), 0);
        Check.due("wed", x.woman(0, 5), 9);
        x.wed(0, 0);
        Check.due("sticks now", x.thing(0, 7), 1);
        Check.due("wed 9 at most", x.woman(0, 5), 9);
        Check.due("stuck with her she may wed", x.wed(0, 0), x.log(0, 3));

        // The document takes STICKS alone as it was ahead of the mixing: WEARS comes behind it.
        BorrowedLuck even = Check.coast("woman 0 0 0 0 purse 0;thing 20 0 0 0 of 0",
                "flow 10;wear 5 if has < holds;stick if wear < 1 and has < holds");
        even.wed(0, 0);
        Check.due("wears behind the mixing", even.thing(0, 6), 1);
        Check.due("sticks ahead of it", even.thing(0, 7), 1);
    }

    private static void promise12Edges() {
        BorrowedLuck x = Check.coast("woman 0 0 0 0 purse 0;thing 1 0 0 0 of 0 worn 60", "flow 60;wear 20;wear 18");
        x.wed(0, 0);
        Check.due("the half of 1 is none", x.woman(0, 0), 0);
        Check.due("wear", x.thing(0, 6), 99);
        x.wed(0, 0);
        Check.due("wear 99 at most", x.thing(0, 6), 99);
    }

    private static void promise13Pawn() {
        BorrowedLuck x = Check.coast(Check.THREE, "stick if blue");
        Check.due("her purse then", x.pawn(0), 56);
        Check.due("purse", x.woman(0, 4), 56);
        Check.due("pawned", x.thing(0, 5), -1);
        Check.cannotBe("pawned already", () -> x.pawn(0));
        Check.cannotBe("its owner does not hold it", () -> x.pawn(1));
        x.wed(2, 2);
        Check.cannotBe("it is stuck", () -> x.pawn(2));
        Check.noSuch("no thing", () -> x.pawn(3));
    }

    private static void promise14Redeem() {
        BorrowedLuck x = Check.coast(Check.THREE);
        Check.cannotBe("not pawned", () -> x.redeem(0));
        Check.noSuch("no thing", () -> x.redeem(-1));
        x.pawn(0);
        Check.due("twice the price", x.redeem(0), 44);
        Check.due("its owner holds it", x.thing(0, 5), 0);
        x.lend(1, 1);
        Check.due("pawned for 6", x.pawn(1), 9);
        Check.cannotBe("9 is less than 12", () -> x.redeem(1));
        Check.tape(x, "price 4");
        x.coast();
        Check.due("at the price of the day", x.redeem(1), 1);
        BorrowedLuck just = Check.coast("woman 0 0 0 0 purse 5;thing 0 0 0 0 of 0");
        just.pawn(0);
        Check.due("just enough", just.redeem(0), 0);
    }

    private static void promise15Cut() {
        BorrowedLuck x = Check.coast("woman 0 0 0 0 purse 0;thing 9 8 1 0 of 0", "flow 0;stick");
        Check.cannotBe("not stuck", () -> x.cut(0));
        Check.noSuch("no thing", () -> x.cut(1));
        x.wed(0, 0);
        Check.due("halves, rounded down", x.cut(0), 8);
        Check.due("sort 0", x.thing(0, 0), 4);
        Check.due("sort 2", x.thing(0, 2), 0);
        Check.due("no more stuck", x.thing(0, 7), 0);
        Check.due("its holder stays", x.thing(0, 5), 0);
        Check.cannotBe("no more stuck", () -> x.cut(0));
    }

    private static void promise16Widow() {
        BorrowedLuck x = Check.coast(Check.THREE);
        Check.due("one more", x.widow(0, true), true);
        Check.due("widows", x.count(9), 5);
        Check.due("she is one", x.widow(0, true), false);
        Check.due("no more", x.widow(2, false), true);
        Check.due("widows", x.count(9), 1);
        Check.due("she is none", x.widow(1, false), false);
        Check.noSuch("no woman", () -> x.widow(3, true));
    }

    private static void promise22And23Log() {
        BorrowedLuck x = Check.coast(Check.THREE);
        x.wed(0, 0);
        x.wed(0, 1);
        x.lend(1, 1);
        x.wed(1, 1);
        x.lend(0, 1);
        Check.due("chain(0)", x.chain(0), 1);
        Check.due("chain(1)", x.chain(1), 3);
        Check.due("chain(2)", x.chain(2), 0);
        Check.due("both had 1", x.since(0, 1), 2);
        Check.due("both had 1, the other way", x.since(1, 0), 2);
        x.wed(1, 0);
        Check.due("both had 0 and 1", x.since(0, 1), 3);
        Check.due("she had none", x.since(0, 2), 0);
        Check.noSuch("no thing", () -> x.chain(3));
        Check.noSuch("no woman", () -> x.since(0, 3));
        Check.noSuch("no woman, twice", () -> x.since(3, 3));
        Check.noNumber("both are one", () -> x.since(1, 1));
    }

    private static void promise44And45Log() {
        BorrowedLuck x = Check.coast(Check.THREE + ";day 7;love 0");
        Check.due("no row", x.log(0, 0), -1000);
        Check.due("led by none", x.led(0, false), 0);
        Check.due("led on no day", x.led(0, true), -1);
        x.wed(0, 1);
        int[] first = {7, 0, 1, -10};
        for (int what = 0; what < 4; what++) {
            Check.due("log(0, " + what + ")", x.log(0, what), first[what]);
        }
        Check.tape(x, "day 9");
        x.coast();
        x.wed(2, 2);
        x.wed(0, 0);
        for (int what = 0; what < 4; what++) {
            Check.due("log(2, " + what + ")", x.log(2, what), first[what]);
        }
        Check.due("log(0, 0)", x.log(0, 0), 9);
        Check.due("log(1, 1)", x.log(1, 1), 2);
        Check.due("log(3, 0)", x.log(3, 0), -1000);
        Check.due("log(-1, 0)", x.log(-1, 0), -1000);
        Check.fails("log(0, 4)", java.util.NoSuchElementException.class, () -> x.log(0, 4));
        Check.fails("log(9, -1)", java.util.NoSuchElementException.class, () -> x.log(9, -1));
        Check.due("rows of 0", x.led(0, false), 2);
        Check.due("the latest day of 0", x.led(0, true), 9);
        Check.due("rows of 1", x.led(1, false), 0);
        Check.noSuch("no woman", () -> x.led(3, true));
    }

    private static void promise45SixtyRows() {
        BorrowedLuck x = Check.coast(Check.THREE);
        x.wed(2, 2);
        for (int i = 0; i < 59; i++) {
            x.wed(0, 0);
        }
        Check.due("60 rows", x.count(10), 60);
        Check.due("the first of them", x.log(59, 1), 2);
        Check.due("chain(2)", x.chain(2), 4);
        x.wed(0, 1);
        Check.due("60 rows still", x.count(10), 60);
        Check.due("the first is forgotten", x.log(59, 1), 0);
        Check.due("log(60, 0)", x.log(60, 0), -1000);
        Check.due("chain(2) then", x.chain(2), 0);
        Check.due("the latest", x.log(0, 2), 1);
    }
}
