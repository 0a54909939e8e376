/** Promises 18 to 21, 24 to 29 and 32 to 34: what would be best, and what would come. */
public final class QuestionTest {
    public static void main(String[] args) {
        promise18Best();
        promise19Order();
        promise20Lowest();
        promise21Reach();
        promise24Whose();
        promise25Next();
        promise26Match();
        promise26TooFew();
        promise27Rests();
        promise28And29Sells();
        promise32Ring();
        promise33Runs();
        promise34Spent();
        Check.end();
    }

    private static void promise18Best() {
        BorrowedLuck x = Check.coast(Check.THREE, "flow 10;stick if thing > 0 and thing < 2");
        Check.due("best(0)", x.best(0), 0);
        Check.due("best(2), the least of several", x.best(2), 0);
        x.pawn(0);
        Check.due("not what is pawned", x.best(2), 1);
        x.wed(0, 1);
        Check.due("not what is stuck with another one", x.best(2), 2);
        Check.due("but what is stuck with her", x.best(0), 1);
        Check.noSuch("no woman", () -> x.best(3));
        BorrowedLuck one = Check.coast("woman 1 1 1 1 purse 0;thing 0 0 0 0 of 0");
        one.pawn(0);
        Check.due("none", one.best(0), -1);
        Check.due("none without things", Check.coast("woman 1 1 1 1 purse 0").best(0), -1);
    }

    private static void promise19Order() {
        BorrowedLuck x = Check.coast(Check.THREE);
        String was = Check.seen(x);
        Check.due("order of 0 and 2", x.order(0, 5, -1), 30);
        Check.due("the first", x.order(0, 5, 0), 0);
        Check.due("the second", x.order(0, 5, 1), 2);
        Check.due("no third", x.order(0, 5, 2), -1);
        Check.due("k is none", x.order(0, 5, -2), -1);
        Check.due("of none", x.order(0, 0, -1), 0);
        Check.due("the first of none", x.order(0, 0, 0), -1);
        Check.due("bits of none", x.order(0, -8, -1), 0);
        Check.same("behind orders", Check.seen(x), was);
        Check.noSuch("no thing", () -> x.order(3, 255, -1));

        BorrowedLuck alike = Check.coast("woman 1 1 1 1 purse 0;".repeat(6) + "thing 9 9 9 9 of 0", "flow 0");
        int[] due = {1, 2, 3, 4, 5, -1};
        for (int k = 0; k < due.length; k++) {
            Check.due("the first row of several: " + k, alike.order(0, 62, k), due[k]);
        }
        Check.noNumber("six of them", () -> alike.order(0, 63, -1));
        Check.noNumber("all bits", () -> alike.order(0, -1, -1));
        Check.due("bits of none do not count", alike.order(0, 0x3e | 0x7fffff00, -1), 0);

        BorrowedLuck late = Check.coast("woman 0 0 0 0 purse 0;woman 40 0 0 0 purse 0;thing 20 0 0 0 of 0", "flow 60");
        Check.due("first 40 and 20: -10, then 30 and 0: 15", late.order(0, 3, -1), 5);
        Check.due("so 1 is the first", late.order(0, 3, 0), 1);
        late.pawn(0);
        Check.due("pawned or not", late.order(0, 3, 1), 0);

        BorrowedLuck three = Check.coast("woman 0 0 0 0 purse 0;woman 80 0 0 0 purse 0;woman 40 0 0 0 purse 0;"
                + "thing 0 0 0 0 of 0", "flow 60");
        Check.due("by 1, 2, 0: -40, 0, 20", three.order(0, 7, -1), -20);
        int[] row = {1, 2, 0, -1};
        for (int k = 0; k < row.length; k++) {
            Check.due("the best row of three: " + k, three.order(0, 7, k), row[k]);
        }
    }

    private static void promise20Lowest() {
        BorrowedLuck x = Check.coast(Check.THREE);
        Check.due("lowest of 0 and 2", x.lowest(0, 5), 30);
        Check.due("of none", x.lowest(0, 0), -1);
        Check.due("bits of none", x.lowest(0, 8), -1);
        Check.noSuch("no thing", () -> x.lowest(-1, 1));
        BorrowedLuck six = Check.coast("woman 1 1 1 1 purse 0;".repeat(6) + "thing 9 9 9 9 of 0");
        Check.noNumber("six of them", () -> six.lowest(0, 63));
        Check.due("five of them", six.lowest(0, 31), 4);
        BorrowedLuck late = Check.coast("woman 0 0 0 0 purse 0;woman 40 0 0 0 purse 0;thing 20 0 0 0 of 0", "flow 60");
        Check.due("15 and 30, not 10 and 25", late.lowest(0, 3), 15);
    }

    private static void promise21Reach() {
        BorrowedLuck x = Check.coast(Check.THREE);
        String was = Check.seen(x);
        Check.due("she has it", x.reach(0, 0, 0, 10), 0);
        Check.due("1 by one", x.reach(2, 0, 0, 1), 1);
        Check.due("by one", x.reach(2, 0, 0, 10), 1);
        Check.due("by two", x.reach(2, 0, 0, 20), 2);
        Check.due("never", x.reach(2, 0, 0, 21), -1);
        Check.same("behind reach", Check.seen(x), was);
        BorrowedLuck slow = Check.coast("woman 0 0 0 0 purse 0;thing 99 0 0 0 of 0", "flow 1");
        Check.due("by 20", slow.reach(0, 0, 0, 20), 20);
        Check.due("not by 21", slow.reach(0, 0, 0, 21), -1);
        Check.due("the most", slow.reach(0, 0, 0, 99), -1);
        Check.due("99 is had", Check.coast("woman 99 0 0 0 purse 0;thing 0 0 0 0 of 0").reach(0, 0, 0, 99), 0);
        Check.noNumber("x is 0", () -> x.reach(0, 0, 0, 0));
        Check.noNumber("x is 100", () -> x.reach(0, 0, 0, 100));
        Check.noSuch("no sort, and x is 0", () -> x.reach(0, 0, 4, 0));
        Check.noSuch("no woman", () -> x.reach(3, 0, 0, 5));
        Check.noSuch("no thing", () -> x.reach(0, 3, 0, 5));
        BorrowedLuck law = Check.coast("woman 0 0 0 0 purse 0;thing 90 0 0 0 of 0", "flow 1;flow 9 if wed > 1;flow 5 if wear > 3");
        Check.due("1, 1, 10, 10, 15: wed and wear go on", law.reach(0, 0, 0, 37), 5);
    }

    private static BorrowedLuck five() {
        return Check.coast("woman 1 1 1 1 purse 0;woman 1 2 1 1 purse 0;woman 1 2 3 1 purse 0;woman 1 3 3 1 purse 0;"
                + "woman 9 9 9 9 purse 0");
    }

    private static int whose(BorrowedLuck x, String told) {
        Check.tape(x, told);
        return x.whose();
    }

    private static void promise24Whose() {
        BorrowedLuck x = five();
        Check.due("none told", whose(x, ""), 31);
        Check.due("1 of sort 0", whose(x, "\000\001"), 15);
        Check.due("and 2 of sort 1", whose(x, "\000\001\001\002"), 6);
        Check.due("and 3 of sort 2", whose(x, "\000\001\001\002\002\003"), 4);
        Check.due("nobody has it", whose(x, "\003\143"), 0);
        Check.due("two of one sort", whose(x, "\000\001\000\011"), 0);
        Check.due("the tape is used up", x.end(1), false);
        Check.due("40 bytes", whose(x, "\000\011".repeat(20)), 16);
        Check.noNumber("42 bytes", () -> whose(x, "\000\011".repeat(21)));
        Check.due("used up by what it throws", x.end(1), false);
        Check.noNumber("one byte", () -> whose(x, "\000"));
        Check.noNumber("sort 4", () -> whose(x, "\004\001"));
        Check.noNumber("100", () -> whose(x, "\000\144"));
        Check.due("fault() tells of texts alone", x.fault(), -1);
        Check.due("of no women", whose(new BorrowedLuck(), ""), 0);
    }

    private static int next(BorrowedLuck x, String told) {
        Check.tape(x, told);
        return x.next();
    }

    private static void promise25Next() {
        BorrowedLuck x = five();
        Check.due("parts of 1, 2, 1, 1 by sort 1", next(x, ""), 1);
        Check.due("sort 1 again", next(x, "\000\001"), 1);
        Check.due("1 and 3: sort 2", next(x, "\001\002"), 2);
        Check.due("one alone", next(x, "\000\011"), -1);
        Check.due("nobody", next(x, "\000\012"), -1);
        Check.due("the tape is used up", x.end(1), false);
        Check.noNumber("sort 4", () -> next(x, "\004\001"));
        Check.noNumber("three bytes", () -> next(x, "\001\001\001"));
        BorrowedLuck same = Check.coast("woman 1 1 1 1 purse 0;woman 1 1 1 1 purse 0");
        Check.due("the least of several", next(same, ""), 0);
    }

    private static void promise26Match() {
        BorrowedLuck x = Check.coast(Check.THREE);
        Check.due("match of all", x.match(7, -1), 4);
        int[] due = {0, 2, 1, -1};
        for (int k = 0; k < due.length; k++) {
            Check.due("match of all: " + k, x.match(7, k), due[k]);
        }
        Check.due("match of 0 and 2", x.match(5, -1), 20);
        Check.due("0 has 0", x.match(5, 0), 0);
        Check.due("2 has 1", x.match(5, 1), 1);
        Check.due("k is none", x.match(5, -2), -1);
        Check.due("of none", x.match(0, -1), 0);
        Check.due("the first of none", x.match(0, 0), -1);
        Check.due("bits of none", x.match(-8, -1), 0);
        BorrowedLuck six = Check.coast("woman 1 1 1 1 purse 0;".repeat(6) + "thing 1 1 1 1 of 0;".repeat(7) + "thing 1 1 1 1 of 0");
        Check.noNumber("six of them", () -> six.match(63, -1));
        Check.due("five alike", six.match(31, -1), 0);
        Check.due("the first way", six.match(31, 4), 4);
    }

    private static void promise26TooFew() {
        BorrowedLuck x = Check.coast(Check.THREE, "flow 10;stick if thing > 0 and thing < 2");
        x.pawn(0);
        Check.due("two things for three", x.match(7, -1), -1000000);
        Check.due("none has one", x.match(7, 0), -1);
        Check.due("two things for two: -16 and 20, not -2 and 0", x.match(6, -1), 4);
        Check.due("so 1 has 2", x.match(6, 0), 2);
        x.wed(0, 1);
        Check.due("what is stuck with 0 is not for 1", x.match(6, -1), -1000000);
        Check.due("but for 0", x.match(5, 0), 1);
    }

    private static void promise27Rests() {
        BorrowedLuck x = Check.coast(Check.THREE);
        Check.due("holds and asks", x.rests(2, 1, 0), 4);
        Check.noNumber("both are one", () -> x.rests(1, 1, 0));
        Check.noSuch("no widow", () -> x.rests(3, 1, 0));
        Check.noSuch("no bride, both one", () -> x.rests(3, 3, 0));
        Check.noSuch("no thing, both one", () -> x.rests(1, 1, 3));
        BorrowedLuck worn = Check.coast("woman 0 0 0 0 purse 0;woman 0 0 0 0 purse 0;thing 40 0 0 0 of 0 worn 30", "flow 60");
        Check.due("gain 20, worth 1: lent and asked, or held and not", worn.rests(0, 1, 0), 1 | 8);
        BorrowedLuck low = Check.coast("woman 0 0 0 0 purse 0;woman 0 0 0 0 purse 0;thing 4 0 0 0 of 0 worn 99;price 50", "flow 60");
        Check.due("gain 2, worth below 0", low.rests(0, 1, 0), 1);
        BorrowedLuck free = Check.coast("woman 0 0 0 0 purse 0;woman 0 0 0 0 purse 0;thing 20 0 0 0 of 0;price 0", "flow 0");
        Check.due("gain 0, worth 2, price 0: all alike to the bride", free.rests(0, 1, 0), 1 | 4 | 8);
    }

    private static void promise28And29Sells() {
        BorrowedLuck x = Check.coast("woman 0 0 0 0 purse 0;thing 10 0 0 0 of 0;thing 10 20 0 0 of 0 worn 5;"
                + "thing 0 0 0 0 of 0 worn 7;thing 60 0 0 0 of 0", "stick if thing > 1 and thing < 3");
        Check.due("sells(0): worth -7", x.sells(0), 0);
        Check.due("sells(10)", x.sells(10), 10);
        Check.due("sells(11)", x.sells(11), 22);
        Check.due("sells(25)", x.sells(25), 50);
        Check.due("sells(26)", x.sells(26), 78);
        Check.due("sells(50)", x.sells(50), 150);
        Check.due("dearest", x.dearest(), 50);
        Check.noNumber("sells(51)", () -> x.sells(51));
        Check.noNumber("sells(-1)", () -> x.sells(-1));
        x.pawn(0);
        Check.due("not what is pawned", x.sells(26), 52);
        x.wed(0, 2);
        Check.due("not what is stuck", x.sells(26), 26);
        x.pawn(1);
        Check.due("none sells: the least", x.dearest(), 0);
        Check.due("dearest of none", new BorrowedLuck().dearest(), 0);
    }

    private static void promise32Ring() {
        BorrowedLuck x = Check.coast("woman 0 0 0 0 purse 0;".repeat(4)
                + "thing 0 0 0 0 of 0 with 1;thing 0 0 0 0 of 1 with 2;thing 0 0 0 0 of 2 with 1;"
                + "thing 0 0 0 0 of 1 with 0;thing 0 0 0 0 of 3;thing 0 0 0 0 of 3 with 0");
        Check.due("0 to 1, 2, 1, ..", x.ring(0), false);
        Check.due("1 to 2, 1", x.ring(1), true);
        Check.due("2 to 1, 2", x.ring(2), true);
        Check.due("3 to 0, 1, 2, ..", x.ring(3), false);
        x.lend(1, 1);
        Check.due("1 to 0 by the next thing: 0, 1, 0", x.ring(0), true);
        Check.due("what is pawned is held by none", pawnedRing(x), false);
        Check.noSuch("no woman", () -> x.ring(4));
        Check.due("nothing lent", Check.coast(Check.THREE).ring(0), false);
    }

    private static boolean pawnedRing(BorrowedLuck x) {
        x.lend(0, 0);
        x.pawn(0);
        return x.ring(0);
    }

    private static void promise33Runs() {
        BorrowedLuck x = Check.coast(Check.THREE);
        String was = Check.seen(x);
        Check.due("runs(0, 0)", x.runs(0, 0), 80);
        Check.due("runs(0, 1)", x.runs(0, 1), 80);
        Check.due("runs(0, 2)", x.runs(0, 2), 78);
        Check.due("runs(0, 3): 40 20 8 10 less 10 10 4 5", x.runs(0, 3), 49);
        Check.same("behind runs", Check.seen(x), was);
        Check.noNumber("runs of 61", () -> x.runs(0, 61));
        Check.noNumber("runs of -1", () -> x.runs(0, -1));
        Check.noSuch("no thing, runs of 61", () -> x.runs(3, 61));
        BorrowedLuck one = Check.coast("woman 0 0 0 0 purse 0;thing 99 99 0 0 of 0", "flow 1 if sort > 0");
        Check.due("round and round", one.runs(0, 40), 198 - 40);
        Check.due("60 of them", one.runs(0, 60), 198 - 49);
    }

    private static void promise34Spent() {
        Check.due("it has none", Check.coast(Check.THREE).spent(2), 0);
        Check.due("never", Check.coast(Check.THREE).spent(0), -1);
        BorrowedLuck two = Check.coast("woman 0 0 0 0 purse 0;woman 0 0 0 0 purse 0;thing 2 5 5 5 of 0", "flow 60");
        Check.due("1 goes, and the other 1 stays", two.spent(0), -1);
        Check.noSuch("no thing", () -> two.spent(1));
    }
}
