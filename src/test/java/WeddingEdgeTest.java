/** The boundaries of section 2: weddings, days, draws, acts and THE LOG. */
public final class WeddingEdgeTest {
    public static void main(String[] args) {
        halfOfTheDifference();
        asItIsAhead();
        wearAtMost();
        sticksAsAhead();
        wedAtMost();
        dayWithoutWomenOrThings();
        dayWithWhatDoesNotCome();
        dayWithWidows();
        dayOfLove();
        luckOfLoveAtMost();
        dayAtMost();
        drawsGoRound();
        daysAtOnce();
        lendNeitherPawnedNorStuck();
        lendFromWidows();
        pawnByOwner();
        redeemForTwice();
        cutOff();
        widowOrNot();
        sixtyRows();
        sixtyRowsByDays();
        Check.end();
    }

    private static void comes(int has, int holds, String law, int want) {
        String what = has + " and " + holds + " by " + law;
        for (int s = 0; s < 4; s++) {
            String none = " 0".repeat(s);
            String rest = " 0".repeat(3 - s);
            BorrowedLuck x = Check.coast("woman" + none + " " + has + rest + " purse 0;thing" + none + " " + holds + rest + " of 0", law);
            Check.due("gain of " + what, x.gain(0, 0), want);
            Check.due("wed of " + what, x.wed(0, 0), want);
            Check.due("what she has of " + what, x.woman(0, s), has + want);
            Check.due("what it has of " + what, x.thing(0, s), holds - want);
            Check.due("all that she has of " + what, x.woman(0, 9), has + want);
        }
    }

    private static void halfOfTheDifference() {
        Check.says("as much goes to the other one as it FLOWS, at most the half of the difference, rounded down");
        int[][] due = {{0, 0, 0}, {5, 5, 0}, {99, 99, 0}, {0, 1, 0}, {1, 0, 0}, {0, 2, 1}, {2, 0, -1}, {0, 3, 1}, {3, 0, -1},
            {98, 99, 0}, {97, 99, 1}, {0, 99, 49}, {99, 0, -49}, {0, 98, 49}, {98, 0, -49}};
        for (int[] row : due) {
            comes(row[0], row[1], "flow 60", row[2]);
        }
        comes(0, 19, "flow 10", 9);
        comes(0, 20, "flow 10", 10);
        comes(0, 21, "flow 10", 10);
        comes(0, 22, "flow 10", 10);
        comes(22, 0, "flow 10", -10);
        comes(19, 0, "flow 10", -9);
        comes(0, 99, "flow 0", 0);
        comes(0, 99, "flow 1", 1);
        comes(99, 0, "flow 1", -1);
        comes(0, 99, "", 0);
        comes(0, 99, "flow 60;".repeat(11) + "flow 60", 49);
    }

    private static void asItIsAhead() {
        Check.says("(a) for each SORT, by all as it is ahead");
        BorrowedLuck x = Check.coast("woman 0 0 0 0 purse 0;thing 20 20 20 20 of 0",
                "flow 3 if wed < 1;flow 4 if wear < 1;flow 60 if has + holds > 20;flow 60 if has + holds < 20");
        Check.due("7 of each", x.wed(0, 0), 28);
        for (int s = 0; s < 4; s++) {
            Check.due("sort " + s, x.woman(0, s), 7);
        }
        Check.due("none of each behind it", x.wed(0, 0), 0);
    }

    private static void wearAtMost() {
        Check.says("(b) WEAR is what it WEARS by more (99 at most)");
        int[][] due = {{0, 0, 1}, {0, 60, 61}, {97, 0, 98}, {98, 0, 99}, {99, 0, 99}, {38, 60, 99}, {39, 60, 99}, {37, 60, 98}};
        for (int[] row : due) {
            BorrowedLuck x = Check.coast("woman 0 0 0 0 purse 0;thing 0 0 0 0 of 0 worn " + row[0], "wear " + row[1]);
            x.wed(0, 0);
            Check.due("worn " + row[0] + ", wear " + row[1], x.thing(0, 6), row[2]);
        }
    }

    private static void sticksAsAhead() {
        Check.says("if it STICKS (as things were ahead of (a)) it is STUCK");
        String pair = "woman 0 0 0 0 purse 0 wed 8;thing 20 0 0 0 of 0 worn 98";
        String[] ahead = {"has < 1", "holds > 19", "wear < 99", "wed < 9"};
        String[] behind = {"has > 0", "holds < 20", "wear > 98", "wed > 8"};
        for (int i = 0; i < 4; i++) {
            BorrowedLuck x = Check.coast(pair, "flow 10;stick if " + ahead[i]);
            x.wed(0, 0);
            Check.due("stuck by " + ahead[i], x.thing(0, 7), 1);
            x.wed(0, 0);
            Check.due("stuck still", x.thing(0, 7), 1);
            BorrowedLuck y = Check.coast(pair, "flow 10;stick if " + behind[i]);
            y.wed(0, 0);
            Check.due("not yet stuck by " + behind[i], y.thing(0, 7), 0);
            y.wed(0, 0);
            Check.due("stuck by " + behind[i], y.thing(0, 7), 1);
        }
    }

    private static void wedAtMost() {
        Check.says("(c) WED is 1 more (9 at most).");
        int[][] due = {{0, 1}, {7, 8}, {8, 9}, {9, 9}};
        for (int[] row : due) {
            BorrowedLuck x = Check.coast("woman 0 0 0 0 purse 0 wed " + row[0] + ";thing 0 0 0 0 of 0");
            x.wed(0, 0);
            Check.due("wed " + row[0], x.woman(0, 5), row[1]);
        }
    }

    private static void dayWithoutWomenOrThings() {
        Check.says("this DRAW always with WOMEN and THINGS");
        BorrowedLuck x = Check.coast("love 100");
        Check.due("without women", x.days(1), 0);
        Check.due("the day", x.count(4), 1);
        Check.due("no draws", x.seed(1), 1);
        BorrowedLuck y = Check.coast("woman 0 0 0 0 purse 0;love 100");
        Check.due("without things", y.days(60), 0);
        Check.due("60 days", y.count(4), 60);
        Check.due("no draws", y.seed(1), 1);
        Check.due("no love", y.woman(0, 0), 0);
        BorrowedLuck z = Check.coast("woman 0 0 0 0 purse 0;thing 0 0 0 0 of 0;love 100");
        Check.due("with both", z.days(1), 1);
        Check.due("love", z.woman(0, 0), 1);
        Check.due("three draws, of which the last is 10113", z.seed(1) >>> 16 & 32767, 10113);
    }

    /** From SEED 1 the WOMAN 0 of two is drawn, from SEED 3 the WOMAN 1; there is one THING. */
    private static BorrowedLuck two(String with, String law) {
        return Check.coast("woman 0 0 0 0 purse 9;woman 0 0 0 0 purse 9;thing 0 0 0 0 of 0 with " + with + ";love 100", law);
    }

    private static void dayWithWhatDoesNotCome() {
        Check.says("if it is neither PAWNED nor STUCK with another one");
        BorrowedLuck x = two("0", "");
        x.pawn(0);
        Check.due("pawned", x.days(1), 0);
        Check.due("none holds it", x.thing(0, 5), -1);
        Check.due("not wed", x.woman(0, 5), 0);
        Check.due("but the love of the day", x.woman(0, 0), 1);
        Check.due("no row", x.count(10), 0);
        Check.due("not worn", x.thing(0, 6), 0);

        BorrowedLuck with0 = two("0", "stick");
        with0.wed(0, 0);
        with0.seed(3);
        Check.due("stuck with 0, drawn is 1", with0.days(1), 0);
        Check.due("0 holds it", with0.thing(0, 5), 0);
        Check.due("1 has the love of the day", with0.woman(1, 0), 1);
        with0.seed(1);
        Check.due("stuck with 0, drawn is 0", with0.days(1), 1);
        Check.due("worn by two", with0.thing(0, 6), 2);

        BorrowedLuck free = two("0", "");
        free.seed(3);
        Check.due("it comes to 1", free.days(1), 1);
        Check.due("1 holds it", free.thing(0, 5), 1);
        Check.due("its owner stays", free.thing(0, 4), 0);
    }

    private static void dayWithWidows() {
        Check.says("nor with a WIDOW other than her, it comes to her");
        BorrowedLuck x = two("1", "");
        x.widow(1, true);
        Check.due("with the widow 1, drawn is 0", x.days(1), 0);
        Check.due("1 holds it", x.thing(0, 5), 1);
        x.seed(3);
        Check.due("drawn is the widow herself", x.days(1), 1);
        x.widow(1, false);
        x.seed(1);
        Check.due("no widow any more", x.days(1), 1);
        Check.due("0 holds it", x.thing(0, 5), 0);
        x.widow(1, true);
        x.seed(3);
        Check.due("to a widow it comes", x.days(1), 1);
        Check.due("the widow holds it", x.thing(0, 5), 1);
        BorrowedLuck own = two("0", "");
        own.widow(0, true);
        own.seed(3);
        Check.due("a widow holds out with her own, too", own.days(1), 0);
    }

    private static void loves(int seed, int love, int want) {
        BorrowedLuck x = Check.coast("woman 5 0 0 0 purse 0;thing 5 0 0 0 of 0;love " + love);
        x.seed(seed);
        x.days(1);
        Check.due("seed " + seed + ", love " + love, x.woman(0, 0), 5 + want);
        Check.due("of sort 0 alone", x.woman(0, 9), 5 + want);
    }

    /** The third DRAW from SEED 1 is 13 by 100, from 51 it is 0, from 16 it is 99. */
    private static void dayOfLove() {
        Check.says("if DRAW modulo 100 is below LOVE, LUCK of SORT 0 of her is 1 more");
        loves(1, 12, 0);
        loves(1, 13, 0);
        loves(1, 14, 1);
        loves(51, 0, 0);
        loves(51, 1, 1);
        loves(16, 99, 0);
        loves(16, 100, 1);
    }

    private static void luckOfLoveAtMost() {
        Check.says("(99 at most; this DRAW always with WOMEN and THINGS)");
        BorrowedLuck x = Check.coast("woman 98 0 0 0 purse 0;thing 98 0 0 0 of 0;love 100");
        x.days(1);
        Check.due("98 and 1", x.woman(0, 0), 99);
        Check.tape(x, "flow 0");
        x.law();
        x.days(1);
        Check.due("99 and none", x.woman(0, 0), 99);
        Check.due("its own stays", x.thing(0, 0), 98);
        Check.due("a day of both", x.count(4), 2);
    }

    private static void dayAtMost() {
        Check.says("DAY is 1 more (9999 at most).");
        BorrowedLuck x = Check.coast("woman 0 0 0 0 purse 0;thing 0 0 0 0 of 0;day 999;love 0");
        for (int i = 0; i < 149; i++) {
            x.days(60);
        }
        x.days(59);
        Check.due("9998", x.count(4), 9998);
        x.days(1);
        Check.due("9999", x.count(4), 9999);
        Check.due("the latest row is of the day ahead of that", x.log(0, 0), 9998);
        Check.due("days go on", x.days(60), 60);
        Check.due("9999 still", x.count(4), 9999);
        Check.due("rows of the last day", x.log(59, 0), 9999);
        Check.due("led on it", x.led(0, true), 9999);
        x.undo();
        Check.due("9999 by the day ahead", x.count(4), 9999);
        x.undo();
        Check.due("9998 again", x.count(4), 9998);
    }

    private static void seedBehind(int seed, int want) {
        BorrowedLuck x = Check.coast("woman 0 0 0 0 purse 0;thing 0 0 0 0 of 0");
        x.seed(seed);
        for (int i = 0; i < 4; i++) {
            x.days(1);
        }
        Check.due("seed " + seed + " behind 12 draws", x.seed(0), want);
    }

    private static void firstDraws(int seed, int woman, int thing) {
        String eight = "woman 0 0 0 0 purse 0;".repeat(8);
        BorrowedLuck x = Check.coast(eight + "thing 0 0 0 0 of 0;".repeat(4) + "love 0");
        Check.tape(x, "thing 0 0 0 0 of 0;".repeat(3) + "thing 0 0 0 0 of 0");
        x.coast();
        x.seed(seed);
        x.days(1);
        Check.due("the woman from seed " + seed, x.log(0, 1), woman);
        Check.due("the thing from seed " + seed, x.log(0, 2), thing);
    }

    private static void drawsGoRound() {
        Check.says("DRAW: SEED is 1103515245 times SEED and 12345, as an int that goes round; bits 16 to 30 (SEED 1 at first).");
        seedBehind(1, 836760821);
        seedBehind(0, 1772930244);
        seedBehind(-1, -1585867629);
        seedBehind(Integer.MIN_VALUE, -374553404);
        seedBehind(Integer.MAX_VALUE, 561616019);
        firstDraws(1, 6, 6);
        firstDraws(0, 0, 4);
        firstDraws(-1, 1, 1);
        firstDraws(Integer.MIN_VALUE, 0, 4);
        firstDraws(Integer.MAX_VALUE, 1, 1);
        firstDraws(2, 4, 1);
    }

    private static void daysAtOnce() {
        Check.says("So many DAYS more (1 to 60)");
        BorrowedLuck x = Check.coast("woman 0 0 0 0 purse 0;thing 0 0 0 0 of 0");
        Check.due("1", x.days(1), 1);
        Check.due("60", x.days(60), 60);
        Check.due("61 in all", x.count(4), 61);
        int[] none = {0, 61, -1, Integer.MIN_VALUE, Integer.MAX_VALUE};
        for (int n : none) {
            Check.refused(x, "days(" + n + ")", IllegalArgumentException.class, () -> x.days(n));
        }
    }

    private static void lendNeitherPawnedNorStuck() {
        Check.says("a THING is lent to a WOMAN who HOLDS it then (neither PAWNED nor STUCK");
        BorrowedLuck x = two("1", "stick");
        Check.due("to its owner", x.lend(0, 0), 1);
        Check.due("she holds it then", x.thing(0, 5), 0);
        Check.refused(x, "to her who holds it", IllegalArgumentException.class, () -> x.lend(0, 0));
        x.pawn(0);
        Check.refused(x, "pawned, to its owner", IllegalStateException.class, () -> x.lend(0, 0));
        Check.refused(x, "pawned, to another one", IllegalStateException.class, () -> x.lend(0, 1));
        x.redeem(0);
        x.lend(0, 1);
        x.wed(1, 0);
        Check.refused(x, "stuck, to its owner", IllegalStateException.class, () -> x.lend(0, 0));
        Check.refused(x, "stuck, to her who holds it", IllegalArgumentException.class, () -> x.lend(0, 1));
        x.cut(0);
        Check.due("cut off it may go", x.lend(0, 0), 1);
    }

    private static void lendFromWidows() {
        Check.says("HELD by a WIDOW who is not its OWNER it goes to its OWNER alone");
        BorrowedLuck x = Check.coast("woman 0 0 0 0 purse 0;woman 0 0 0 0 purse 0 widow;woman 0 0 0 0 purse 0 widow;"
                + "thing 0 0 0 0 of 0 with 1;thing 0 0 0 0 of 1;thing 0 0 0 0 of 0");
        Check.refused(x, "to a widow", IllegalStateException.class, () -> x.lend(0, 2));
        Check.refused(x, "to herself", IllegalArgumentException.class, () -> x.lend(0, 1));
        Check.due("to its owner", x.lend(0, 0), 1);
        Check.due("her own to one", x.lend(1, 0), 1);
        Check.due("who is no widow, so to another one", x.lend(1, 2), 0);
        Check.refused(x, "who holds out", IllegalStateException.class, () -> x.lend(1, 0));
        Check.due("but not with its owner, a widow, too", x.lend(1, 1), 2);
        Check.due("her own to a widow", x.lend(1, 2), 1);
        x.widow(2, false);
        Check.due("no widow any more", x.lend(1, 0), 2);
    }

    private static void pawnByOwner() {
        Check.says("a THING is PAWNED by its OWNER who HOLDS it (PURSE is PRICE more, 9999 at most; not STUCK)");
        BorrowedLuck x = two("1", "stick");
        Check.refused(x, "another one holds it", IllegalStateException.class, () -> x.pawn(0));
        x.lend(0, 0);
        Check.due("9 and 5", x.pawn(0), 14);
        Check.due("hers alone", x.woman(1, 4), 9);
        Check.refused(x, "pawned already", IllegalStateException.class, () -> x.pawn(0));
        x.redeem(0);
        x.wed(0, 0);
        Check.refused(x, "stuck", IllegalStateException.class, () -> x.pawn(0));
        x.widow(0, true);
        x.cut(0);
        Check.due("a widow may", x.pawn(0), 9);
    }

    private static void redeems(int purse, int price, int want) {
        BorrowedLuck x = Check.coast("woman 0 0 0 0 purse " + purse + ";thing 0 0 0 0 of 0;price " + price);
        x.pawn(0);
        String what = "purse " + purse + ", price " + price;
        if (want < 0) {
            Check.refused(x, what, IllegalStateException.class, () -> x.redeem(0));
        } else {
            Check.due(what, x.redeem(0), want);
            Check.due(what + ": she holds it", x.thing(0, 5), 0);
        }
    }

    private static void redeemForTwice() {
        Check.says("bought back by its OWNER for twice the PRICE");
        redeems(0, 0, 0);
        redeems(0, 1, -1);
        redeems(1, 1, 0);
        redeems(49, 50, -1);
        redeems(50, 50, 0);
        redeems(51, 50, 1);
        redeems(999, 50, 949);
        BorrowedLuck x = two("1", "");
        Check.refused(x, "not pawned", IllegalStateException.class, () -> x.redeem(0));
        x.lend(0, 0);
        x.pawn(0);
        x.redeem(0);
        Check.refused(x, "no more pawned", IllegalStateException.class, () -> x.redeem(0));
    }

    private static void cutOff() {
        Check.says("no more STUCK; each LUCK of it is the half, rounded down");
        BorrowedLuck x = Check.coast("woman 99 98 1 0 purse 0;woman 0 0 0 0 purse 0;thing 99 98 1 0 of 1 with 0", "stick;wear 4");
        Check.refused(x, "not stuck", IllegalStateException.class, () -> x.cut(0));
        x.wed(0, 0);
        Check.due("49, 49, 0 and 0", x.cut(0), 98);
        int[] its = {49, 49, 0, 0, 1, 0, 5, 0, 0, 93};
        for (int what = 0; what < its.length; what++) {
            Check.due("thing(0, " + what + ")", x.thing(0, what), its[what]);
        }
        Check.due("hers stays", x.woman(0, 9), 198);
        Check.refused(x, "no more stuck", IllegalStateException.class, () -> x.cut(0));
        BorrowedLuck none = Check.coast("woman 0 0 0 0 purse 0;thing 0 0 0 0 of 0", "stick");
        none.wed(0, 0);
        Check.due("the half of none", none.cut(0), 0);
    }

    private static void widowOrNot() {
        Check.says("A WIDOW, or not: whether that changed.");
        BorrowedLuck x = two("1", "");
        Check.due("not, as she was", x.widow(0, false), false);
        Check.due("one", x.widow(0, true), true);
        Check.due("one, as she was", x.widow(0, true), false);
        Check.due("she alone", x.count(9), 1);
        Check.due("not", x.widow(0, false), true);
        Check.due("none", x.count(9), 0);
    }

    private static void sixtyRows() {
        Check.says("THE LOG: the latest 60 WEDDINGS");
        BorrowedLuck x = Check.coast("woman 9 0 0 0 purse 0;woman 0 0 0 0 purse 0;thing 0 0 0 0 of 0;thing 0 0 0 0 of 1;day 7");
        Check.due("none", x.count(10), 0);
        Check.due("no row", x.log(0, 0), -1000);
        x.wed(1, 1);
        for (int i = 1; i < 60; i++) {
            x.wed(0, 0);
            Check.due("rows", x.count(10), i + 1);
        }
        int[] first = {7, 1, 1, 0};
        for (int what = 0; what < 4; what++) {
            Check.due("the first of 60: " + what, x.log(59, what), first[what]);
            Check.due("none ahead of it: " + what, x.log(60, what), -1000);
        }
        Check.due("below 0", x.log(58, 3), -4);
        Check.due("led", x.led(1, false), 1);
        Check.due("both had none", x.since(0, 1), 0);
        x.lend(1, 0);
        x.wed(0, 1);
        Check.due("60 still", x.count(10), 60);
        Check.due("the first is forgotten", x.log(59, 3), -4);
        Check.due("no row more", x.log(60, 3), -1000);
        Check.due("she led none", x.led(1, false), 0);
        Check.due("on no day", x.led(1, true), -1);
        Check.due("she is in no chain", x.chain(1), 1);
        x.undo();
        Check.due("undone: the first is there again", x.log(59, 1), 1);
        Check.due("and not one more", x.count(10), 60);
        Check.due("she is in the chain", x.chain(1), 2);
        int[] none = {-1, 60, 61, Integer.MIN_VALUE, Integer.MAX_VALUE};
        for (int ago : none) {
            Check.due("log(" + ago + ", 3)", x.log(ago, 3), -1000);
        }
    }

    private static void sixtyRowsByDays() {
        Check.says("THE LOG: the latest 60 WEDDINGS");
        BorrowedLuck x = Check.coast("woman 0 0 0 0 purse 0;thing 0 0 0 0 of 0;day 100;love 0");
        x.wed(0, 0);
        x.days(59);
        Check.due("60", x.count(10), 60);
        Check.due("the wedding ahead of days", x.log(59, 0), 100);
        Check.due("the first day", x.log(58, 0), 100);
        Check.due("the last day", x.log(0, 0), 158);
        x.days(60);
        Check.due("60 of days", x.count(10), 60);
        Check.due("the first of them", x.log(59, 0), 159);
        Check.due("the last of them", x.log(0, 0), 218);
        Check.due("led", x.led(0, false), 60);
    }
}
