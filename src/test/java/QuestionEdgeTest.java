/** The boundaries of section 3, and of the promises that ask: nothing where something may be had, the most, and one more. */
public final class QuestionEdgeTest {
    private static final String WOMAN = "woman 0 0 0 0 purse 0";
    private static final String THING = "thing 0 0 0 0 of 0";
    private static final int[] FAR = {Integer.MIN_VALUE, Integer.MIN_VALUE + 1, -1000, 1000, Integer.MAX_VALUE};

    public static void main(String[] args) {
        gainWhoeverHolds();
        bestOfNone();
        worthBelowNone();
        orderOfFive();
        orderOfNone();
        orderOfEqualRows();
        orderChangesNothing();
        lowestOfSome();
        reachOfNumbers();
        reachOfTwenty();
        chainAndSinceOfEight();
        whoseTapes();
        nextOfFew();
        matchOfFive();
        matchOfTooFew();
        restsOfWorth();
        sellsOfPrices();
        dearestOfNone();
        unluckyOfSeveral();
        luckiestOfSeveral();
        rings();
        runsOfNumbers();
        spentOfNone();
        oldestOfSeveral();
        thingsAsBits();
        alikeOfEight();
        shareWithout();
        oddsRoundedDown();
        trialOfNumbers();
        spanOfNumbers();
        ledByNone();
        countOfAnother();
        Check.end();
    }

    private static void gainWhoeverHolds() {
        Check.says("how much LUCK she would have more by a WEDDING with it now, all SORTS together (whoever HOLDS it)");
        BorrowedLuck x = Check.coast("woman 0 0 0 0 purse 9;woman 99 99 99 99 purse 0;thing 99 99 99 99 of 0;thing 0 0 0 0 of 1",
                "flow 60;stick");
        Check.due("the most", x.gain(0, 0), 196);
        Check.due("the least", x.gain(1, 1), -196);
        Check.due("held by another one", x.gain(0, 1), 0);
        x.pawn(0);
        Check.due("pawned", x.gain(0, 0), 196);
        x.redeem(0);
        x.lend(0, 1);
        x.wed(1, 0);
        Check.due("stuck with another one", x.gain(0, 0), 196);
    }

    private static void bestOfNone() {
        Check.says("the THING, neither PAWNED nor STUCK with another one, of the greatest GAIN (of several the least; none)");
        Check.due("without things", Check.coast(WOMAN).best(0), -1);
        BorrowedLuck x = Check.coast("woman 9 0 0 0 purse 9;woman 0 0 0 0 purse 0;" + THING + ";" + THING + " with 1", "flow 2;stick");
        Check.due("of several the least, though all are below 0", x.best(0), 0);
        x.pawn(0);
        Check.due("the other one", x.best(0), 1);
        x.wed(1, 1);
        Check.due("pawned, and stuck with another one", x.best(0), -1);
        Check.due("stuck with her", x.best(1), 1);
        x.redeem(0);
        Check.due("bought back", x.best(0), 0);
        x.widow(1, true);
        x.lend(0, 1);
        Check.due("with a widow it may be best", x.best(0), 0);
        BorrowedLuck late = Check.coast(WOMAN + ";" + (THING + ";").repeat(7) + "thing 2 0 0 0 of 0");
        Check.due("the last", late.best(0), 7);
    }

    private static void worthBelowNone() {
        Check.says("WORTH of a THING: all its LUCK less WEAR (below 0 too).");
        BorrowedLuck x = Check.coast(WOMAN + ";" + THING + " worn 99;thing 99 99 99 99 of 0;thing 1 2 3 4 of 0 worn 10");
        Check.due("the least", x.thing(0, 9), -99);
        Check.due("the most", x.thing(1, 9), 396);
        Check.due("none", x.thing(2, 9), 0);
    }

    private static BorrowedLuck eight() {
        return Check.coast("woman 1 1 1 1 purse 0;".repeat(8) + "thing 9 9 9 9 of 0", "flow 0");
    }

    private static void orderOfFive() {
        Check.says("ORDER of a THING and a set of WOMEN (5 at most)");
        BorrowedLuck x = eight();
        int[] right = {0, 1, 128, 31, 248, 0x9d & 0xff, 31 | 0x7fffff00, 31 | Integer.MIN_VALUE, 0xffffff00, 256};
        for (int set : right) {
            Check.due("order of " + set, x.order(0, set, -1), 0);
            int five = Integer.bitCount(set & 255);
            Check.due("the last of " + set, x.order(0, set, five - 1), five == 0 ? 0 : 31 - Integer.numberOfLeadingZeros(set & 255));
            Check.due("one more of " + set, x.order(0, set, five), -1);
        }
        int[] wrong = {63, 252, 255, 254, -1, 63 | 256, 0xbd};
        for (int set : wrong) {
            Check.refused(x, "order of " + set, IllegalArgumentException.class, () -> x.order(0, set, -1));
            Check.refused(x, "a k of " + set, IllegalArgumentException.class, () -> x.order(0, set, 9));
            Check.refused(x, "lowest of " + set, IllegalArgumentException.class, () -> x.lowest(0, set));
        }
        BorrowedLuck five = Check.coast("woman 1 1 1 1 purse 0;".repeat(5) + "thing 9 9 9 9 of 0", "flow 1");
        Check.due("all bits, of five women", five.order(0, -1, -1), 20);
        Check.due("the last of all bits", five.order(0, -1, 4), 4);
        Check.due("lowest of all bits", five.lowest(0, -1), 8);
    }

    private static void orderOfNone() {
        Check.says("who is the k-th (from 0 on) in the first such row (by the first unlike one, the lesser); none");
        BorrowedLuck x = eight();
        Check.due("how much of none", x.order(0, 0, -1), 0);
        Check.due("the first of none", x.order(0, 0, 0), -1);
        Check.due("one", x.order(0, 4, 0), 2);
        Check.due("the second of one", x.order(0, 4, 1), -1);
        Check.due("-2", x.order(0, 4, -2), -1);
        for (int k : FAR) {
            Check.due("k of " + k, x.order(0, 31, k), -1);
            Check.due("match, k of " + k, x.match(1, k), -1);
        }
        Check.due("five of them: k of 5", x.order(0, 31, 5), -1);
    }

    private static void orderOfEqualRows() {
        Check.says("in the first such row (by the first unlike one, the lesser)");
        // 60 gives 30 to whomever is behind it, so that the one who has 60 goes ahead of the others, alike to one another.
        BorrowedLuck x = Check.coast(WOMAN + ";" + WOMAN + ";woman 60 0 0 0 purse 0;" + WOMAN + ";" + WOMAN + ";" + THING, "flow 60");
        Check.due("-30, 15, 7, 4, 2", x.order(0, 31, -1), -2);
        int[] row = {2, 0, 1, 3, 4};
        for (int k = 0; k < 5; k++) {
            Check.due("the " + k + "-th", x.order(0, 31, k), row[k]);
        }
        Check.due("lowest: 0, 15, 7, 4, 2 by any row with 2 ahead", x.lowest(0, 31), 2);
        BorrowedLuck last = Check.coast(WOMAN + ";woman 16 0 0 0 purse 0;woman 32 0 0 0 purse 0;woman 64 0 0 0 purse 0;"
                + "woman 96 0 0 0 purse 0;" + THING, "flow 60");
        Check.due("-48, -8, 12, 14, 15", last.order(0, 31, -1), -15);
        for (int k = 0; k < 5; k++) {
            Check.due("the last of all rows: " + k, last.order(0, 31, k), 4 - k);
        }
    }

    private static void orderChangesNothing() {
        Check.says("it coming to each; nothing else");
        BorrowedLuck x = Check.coast("woman 1 1 1 1 purse 9;woman 1 1 1 1 purse 9 widow;thing 9 9 9 9 of 0 with 1;thing 9 9 9 9 of 0",
                "flow 1;stick if woman > 0");
        String was = Check.seen(x);
        Check.due("with a widow", x.order(0, 3, -1), 8);
        Check.same("behind it", Check.seen(x), was);
        x.wed(1, 0);
        x.pawn(1);
        Check.due("stuck with another one", x.order(0, 1, -1), 4);
        Check.due("pawned", x.order(1, 3, -1), 8);
        Check.due("lowest, pawned", x.lowest(1, 1), 8);
    }

    private static void lowestOfSome() {
        Check.says("none without WOMEN");
        BorrowedLuck x = eight();
        Check.due("none", x.lowest(0, 0), -1);
        Check.due("bits of none", x.lowest(0, 0xffffff00), -1);
        Check.due("one", x.lowest(0, 128), 4);
        Check.due("five", x.lowest(0, 31), 4);
        BorrowedLuck poor = Check.coast(WOMAN + ";" + THING);
        Check.due("who have none", poor.lowest(0, 1), 0);
        BorrowedLuck some = Check.coast(WOMAN + ";woman 9 9 9 9 purse 0;woman 8 8 8 8 purse 0;" + THING, "");
        Check.due("all three", some.lowest(0, 7), 0);
        Check.due("without her who has none", some.lowest(0, 6), 32);
        Check.due("one alone", some.lowest(0, 2), 36);
    }

    private static void reachOfNumbers() {
        Check.says("REACH of a WOMAN, a THING, a SORT and X (1 to 99)");
        BorrowedLuck x = Check.coast("woman 99 1 0 0 purse 0;thing 99 0 0 2 of 0");
        Check.due("1 of 1", x.reach(0, 0, 1, 1), 0);
        Check.due("1 of none", x.reach(0, 0, 2, 1), -1);
        Check.due("1 of 2", x.reach(0, 0, 3, 1), 1);
        Check.due("99 of 99", x.reach(0, 0, 0, 99), 0);
        Check.due("99 of less", x.reach(0, 0, 1, 99), -1);
        int[] none = {0, -1, 100, Integer.MIN_VALUE, Integer.MAX_VALUE};
        for (int number : none) {
            Check.refused(x, "x of " + number, IllegalArgumentException.class, () -> x.reach(0, 0, 0, number));
        }
    }

    private static void reachOfTwenty() {
        Check.says("the fewest WEDDINGS (0 to 20) of her with it, one behind another, till her LUCK of it is X at least; none");
        BorrowedLuck x = Check.coast("woman 10 0 0 0 purse 0;woman 0 0 0 0 purse 0;thing 99 0 0 0 of 0 with 1", "flow 2");
        Check.due("0", x.reach(0, 0, 0, 10), 0);
        Check.due("1", x.reach(0, 0, 0, 11), 1);
        Check.due("1 again", x.reach(0, 0, 0, 12), 1);
        Check.due("2", x.reach(0, 0, 0, 13), 2);
        Check.due("19", x.reach(0, 0, 0, 48), 19);
        Check.due("20", x.reach(0, 0, 0, 49), 20);
        Check.due("20 again", x.reach(0, 0, 0, 50), 20);
        Check.due("21 are too many", x.reach(0, 0, 0, 51), -1);
        Check.due("nothing stays", x.woman(0, 0), 10);
        Check.due("nor of the thing", x.thing(0, 0), 99);
        Check.due("held by another one", x.thing(0, 5), 1);
    }

    private static void chainAndSinceOfEight() {
        Check.says("WOMEN who had a WEDDING with it by THE LOG, as bits");
        BorrowedLuck x = Check.coast((WOMAN + ";").repeat(8) + (THING + ";").repeat(5) + THING);
        Check.tape(x, THING + ";" + THING);
        x.coast();
        Check.due("none", x.chain(7), 0);
        for (int w = 0; w < 8; w++) {
            if (w > 0) {
                x.lend(7, w);
            }
            x.wed(w, 7);
        }
        Check.due("all eight", x.chain(7), 255);
        Check.due("none of the first", x.chain(0), 0);
        Check.says("THINGS with which both had one by THE LOG, as bits");
        Check.due("the last thing", x.since(0, 7), 128);
        Check.due("the other way", x.since(7, 0), 128);
        x.wed(0, 0);
        Check.due("the one alone", x.since(0, 7), 128);
        x.lend(0, 7);
        x.wed(7, 0);
        Check.due("two things", x.since(0, 7), 129);
        Check.refused(x, "both are one", IllegalArgumentException.class, () -> x.since(7, 7));
    }

    private static void whose(String told, BorrowedLuck x, int want) {
        Check.tape(x, told);
        Check.due("whose of " + told.length() + " bytes", x.whose(), want);
        Check.due("the tape is used up", x.end(1), false);
    }

    private static void notTold(String told, BorrowedLuck x) {
        String was = Check.seen(x);
        Check.tape(x, told);
        Check.noNumber("whose of " + told.length() + " bytes", x::whose);
        Check.due("the tape is used up", x.end(1), false);
        Check.tape(x, told);
        Check.noNumber("next of " + told.length() + " bytes", x::next);
        Check.due("the tape is used up by next", x.end(1), false);
        Check.same("behind it", Check.seen(x), was);
    }

    private static void whoseTapes() {
        Check.says("of each two bytes: the SORT, how much 0 to 99; at most 40 bytes");
        BorrowedLuck x = Check.coast("woman 0 0 0 99 purse 0;woman 99 0 0 0 purse 0");
        whose("\000\000", x, 1);
        whose("\000\143", x, 2);
        whose("\003\143", x, 1);
        whose("\003\000", x, 2);
        whose("\001\000".repeat(19), x, 3);
        whose("\001\000".repeat(20), x, 3);
        whose("\001\000".repeat(19) + "\003\000", x, 2);
        notTold("\001\000".repeat(21), x);
        notTold("\001\000".repeat(20) + "\001", x);
        notTold("\001\000".repeat(19) + "\001", x);
        notTold("\001\000".repeat(200), x);
        notTold("\000", x);
        notTold("\004\000", x);
        notTold("\377\000", x);
        notTold("\000\144", x);
        notTold("\000\377", x);
        notTold("\001\000".repeat(19) + "\003\144", x);
        notTold("\001\000".repeat(19) + "\004\143", x);
        Check.says("none may be told: all");
        whose("", x, 3);
        whose("", new BorrowedLuck(), 0);
        whose("\000\000", new BorrowedLuck(), 0);
        whose("", eight(), 255);
        notTold("\004\000", new BorrowedLuck());
    }

    private static void next(String told, BorrowedLuck x, int want) {
        Check.tape(x, told);
        Check.due("next of " + told.length() + " bytes", x.next(), want);
        Check.due("the tape is used up", x.end(1), false);
    }

    private static void nextOfFew() {
        Check.says("of several the least; none with fewer than two");
        next("", new BorrowedLuck(), -1);
        next("", Check.coast(WOMAN), -1);
        next("", eight(), 0);
        BorrowedLuck x = Check.coast("woman 1 1 1 1 purse 0;woman 1 1 1 2 purse 0;woman 2 1 1 3 purse 0");
        next("", x, 3);
        next("\000\001", x, 3);
        next("\000\002", x, -1);
        next("\000\003", x, -1);
        next("\001\001".repeat(20), x, 3);
        BorrowedLuck ties = Check.coast("woman 1 1 2 2 purse 0;woman 1 2 1 2 purse 0;woman 1 2 2 1 purse 0");
        next("", ties, 1);
        next("\001\002", ties, 2);
        next("", Check.coast("woman 1 1 1 1 purse 1;woman 1 1 1 1 purse 2 wed 3;woman 1 1 1 1 purse 3 widow"), 0);
    }

    private static void matchOfFive() {
        Check.says("MATCH of a set of WOMEN (5 at most)");
        BorrowedLuck x = Check.coast((WOMAN + ";").repeat(8) + (THING + ";").repeat(4) + "thing 4 0 0 0 of 0", "flow 2");
        Check.due("five, five things", x.match(31, -1), 2);
        int[] due = {0, 1, 2, 3, 4, -1};
        for (int k = 0; k < due.length; k++) {
            Check.due("the first way: " + k, x.match(248, k), due[k]);
        }
        Check.due("one has the best", x.match(128, 0), 4);
        Check.due("two: the first has the least of what is the most", x.match(3, 0), 0);
        Check.due("two: the second", x.match(3, 1), 4);
        Check.due("bits of none", x.match(31 | 0xffffff00, -1), 2);
        int[] six = {63, 252, 255, -1, 0xbd};
        for (int set : six) {
            Check.refused(x, "match of " + set, IllegalArgumentException.class, () -> x.match(set, -1));
            Check.refused(x, "a k of " + set, IllegalArgumentException.class, () -> x.match(set, 99));
        }
        Check.due("of none", x.match(0, -1), 0);
        Check.due("the first of none", x.match(0, 0), -1);
        Check.due("of none on a coast without women", new BorrowedLuck().match(-1, -1), 0);
    }

    private static void matchOfTooFew() {
        Check.says("MATCH: how much (k NONE; - 1000000, if there are too few THINGS), or which THING the k-th one has; NONE.");
        BorrowedLuck x = Check.coast((WOMAN + ";").repeat(5) + (THING + ";").repeat(3) + THING, "flow 2;stick if thing > 2");
        Check.due("four for four", x.match(15, -1), 0);
        Check.due("four for five", x.match(31, -1), -1000000);
        Check.due("none has one", x.match(31, 0), -1);
        Check.due("none, k of 4", x.match(31, 4), -1);
        x.pawn(0);
        Check.due("one is pawned", x.match(15, -1), -1000000);
        Check.due("three for three", x.match(14, 0), 1);
        x.wed(0, 3);
        Check.due("one is stuck with another one", x.match(14, -1), -1000000);
        Check.due("one is stuck with one of them", x.match(7, -1), 0);
        Check.due("who has it", x.match(7, 0), 3);
        Check.due("no things at all", Check.coast(WOMAN).match(1, -1), -1000000);
        Check.due("no things for none", Check.coast(WOMAN).match(0, -1), 0);
        BorrowedLuck low = Check.coast("woman 99 99 99 99 purse 0;" + THING, "flow 60");
        Check.due("the least that can be had", low.match(1, -1), -196);
    }

    private static void rests(int luck, int worn, int price, String law, int want) {
        BorrowedLuck x = Check.coast(WOMAN + ";" + WOMAN + ";thing " + luck + " 0 0 0 of 0 worn " + worn + ";price " + price, law);
        Check.due("rests of " + luck + " worn " + worn + " by " + price + " and " + law, x.rests(0, 1, 0), want);
    }

    /** Lent and asked rests while WORTH by 10 is 2 at most; held and asked from 2 on, if GAIN is twice the PRICE at most. */
    private static void restsOfWorth() {
        Check.says("the widow WORTH by 10, rounded down (0 at least)");
        rests(19, 0, 5, "flow 0", 1);
        rests(20, 0, 5, "flow 0", 1 | 4);
        rests(29, 0, 5, "flow 0", 1 | 4);
        rests(30, 0, 5, "flow 0", 4);
        rests(0, 0, 5, "flow 0", 1);
        rests(0, 1, 5, "flow 0", 1);
        rests(0, 99, 5, "flow 0", 1);
        rests(99, 99, 5, "flow 0", 1);
        Check.says("choices (2 times the one's and the other one's) from which neither would have more by her other one: as bits");
        rests(40, 0, 10, "flow 60", 4 | 8);
        rests(40, 0, 9, "flow 60", 8);
        rests(40, 0, 11, "flow 60", 4);
        rests(40, 21, 10, "flow 60", 1 | 8);
        rests(40, 20, 10, "flow 60", 1 | 4 | 8);
        rests(0, 0, 0, "flow 0", 1 | 8);
        BorrowedLuck x = Check.coast(WOMAN + ";" + WOMAN + ";" + THING);
        Check.refused(x, "both are one", IllegalArgumentException.class, () -> x.rests(1, 1, 0));
        Check.due("any woman is the widow", x.rests(1, 0, 0), 1);
    }

    private static void sellsOfPrices() {
        Check.says("SELLS of a PRICE (0 to 50): the sum of the PRICE for each THING that is neither PAWNED nor STUCK and whose WORTH is below it.");
        BorrowedLuck x = Check.coast(WOMAN + ";thing 49 0 0 0 of 0;thing 50 0 0 0 of 0;" + THING + ";" + THING + " worn 1",
                "flow 0;stick if thing > 2");
        Check.due("0: below 0 is one, for 0", x.sells(0), 0);
        Check.due("1: 0 and below", x.sells(1), 2);
        Check.due("49: not what is worth 49", x.sells(49), 98);
        Check.due("50: not what is worth 50", x.sells(50), 150);
        x.wed(0, 3);
        Check.due("stuck", x.sells(50), 100);
        x.pawn(2);
        Check.due("pawned", x.sells(50), 50);
        Check.due("without things", new BorrowedLuck().sells(50), 0);
        int[] none = {-1, 51, Integer.MIN_VALUE, Integer.MAX_VALUE};
        for (int price : none) {
            Check.refused(x, "sells(" + price + ")", IllegalArgumentException.class, () -> x.sells(price));
        }
    }

    private static void dearestOfNone() {
        Check.says("DEAREST: the least PRICE (0 to 50) by which SELLS is the most.");
        Check.due("without things", new BorrowedLuck().dearest(), 0);
        Check.due("worth 50", Check.coast(WOMAN + ";thing 50 0 0 0 of 0").dearest(), 0);
        Check.due("worth 49", Check.coast(WOMAN + ";thing 49 0 0 0 of 0").dearest(), 50);
        BorrowedLuck x = Check.coast(WOMAN + ";" + THING);
        Check.due("worth 0", x.dearest(), 50);
        x.pawn(0);
        Check.due("pawned", x.dearest(), 0);
    }

    private static void unluckyOfSeveral() {
        Check.says("UNLUCKY: the WOMAN of the least LUCK together (of several the least; none).");
        Check.due("none", new BorrowedLuck().unlucky(), -1);
        Check.due("one", Check.coast("woman 99 99 99 99 purse 0").unlucky(), 0);
        Check.due("alike", eight().unlucky(), 0);
        Check.due("the last", Check.coast("woman 1 1 1 1 purse 0;".repeat(7) + "woman 0 0 0 3 purse 0").unlucky(), 7);
        Check.due("two of them", Check.coast("woman 1 1 1 1 purse 0;woman 0 3 0 0 purse 0;woman 0 0 0 3 purse 0").unlucky(), 1);
    }

    private static void luckiestOfSeveral() {
        Check.says("LUCKIEST of a SORT: the WOMAN of the most of it (of several the least; none).");
        for (int s = 0; s < 4; s++) {
            Check.due("none", new BorrowedLuck().luckiest(s), -1);
            Check.due("who has none", Check.coast(WOMAN).luckiest(s), 0);
            Check.due("alike", eight().luckiest(s), 0);
        }
        Check.due("the last", Check.coast("woman 1 1 1 1 purse 0;".repeat(7) + "woman 0 0 0 2 purse 0").luckiest(3), 7);
        Check.due("two of them", Check.coast("woman 1 1 1 1 purse 0;woman 0 3 0 0 purse 0;woman 0 3 0 3 purse 0").luckiest(1), 1);
    }

    private static void rings() {
        Check.says("whether one comes from her back to her");
        Check.due("without things", Check.coast(WOMAN).ring(0), false);
        Check.due("her own", Check.coast(WOMAN + ";" + THING).ring(0), false);
        StringBuilder told = new StringBuilder(WOMAN);
        for (int w = 1; w < 8; w++) {
            told.append(";").append(WOMAN);
        }
        for (int w = 0; w < 6; w++) {
            told.append(";thing 0 0 0 0 of ").append(w).append(" with ").append(w + 1);
        }
        BorrowedLuck x = Check.coast(told.toString());
        Check.tape(x, "thing 0 0 0 0 of 6 with 7;thing 0 0 0 0 of 7 with 0");
        x.coast();
        for (int w = 0; w < 8; w++) {
            Check.due("a ring of eight from " + w, x.ring(w), true);
        }
        x.lend(7, 1);
        Check.due("from 0 into a ring of seven", x.ring(0), false);
        for (int w = 1; w < 8; w++) {
            Check.due("a ring of seven from " + w, x.ring(w), true);
        }
        x.lend(7, 7);
        Check.due("an open row", x.ring(0), false);
        BorrowedLuck two = Check.coast(WOMAN + ";" + WOMAN + ";" + THING + ";" + THING + " with 1;thing 0 0 0 0 of 1 with 0");
        Check.due("her own is no step: the next one is", two.ring(0), true);
        two.pawn(0);
        Check.due("nor is what is pawned", two.ring(0), true);
    }

    private static void runsOfNumbers() {
        Check.says("RUNS of a THING, N WEDDINGS (0 to 60)");
        BorrowedLuck x = Check.coast("woman 0 0 0 0 purse 0;woman 99 0 0 0 purse 0;thing 50 99 0 0 of 0", "flow 1");
        Check.due("0", x.runs(0, 0), 149);
        Check.due("1", x.runs(0, 1), 147);
        Check.due("2", x.runs(0, 2), 147);
        Check.due("3", x.runs(0, 3), 145);
        Check.due("60", x.runs(0, 60), 149 - 60);
        int[] none = {-1, 61, Integer.MIN_VALUE, Integer.MAX_VALUE};
        for (int n : none) {
            Check.refused(x, "runs of " + n, IllegalArgumentException.class, () -> x.runs(0, n));
        }
        x.pawn(0);
        Check.due("pawned", x.runs(0, 1), 147);
    }

    private static void spentOfNone() {
        Check.says("SPENT: the first N (0 to 60) so by which it has none of SORT 0; none.");
        Check.due("it has none", Check.coast(WOMAN + ";thing 0 9 9 9 of 0").spent(0), 0);
        Check.due("1 stays", Check.coast(WOMAN + ";thing 1 0 0 0 of 0", "flow 60").spent(0), -1);
        Check.due("99 go to 1 alone", Check.coast((WOMAN + ";").repeat(8) + "thing 99 0 0 0 of 0", "flow 60").spent(0), -1);
        BorrowedLuck x = Check.coast(WOMAN + ";thing 1 0 0 0 of 0", "stick");
        x.wed(0, 0);
        x.cut(0);
        Check.due("the half of 1", x.spent(0), 0);
    }

    private static void oldestOfSeveral() {
        Check.says("OLDEST: the THING of the most WEAR (of several the least; none).");
        Check.due("none", Check.coast(WOMAN).oldest(), -1);
        Check.due("not worn", Check.coast(WOMAN + ";" + THING + ";" + THING).oldest(), 0);
        Check.due("the last", Check.coast(WOMAN + ";" + (THING + ";").repeat(7) + THING + " worn 1").oldest(), 7);
        Check.due("two of them", Check.coast(WOMAN + ";" + THING + ";" + THING + " worn 99;" + THING + " worn 99").oldest(), 1);
    }

    private static void thingsAsBits() {
        Check.says("HELD of a WOMAN: THINGS that she HOLDS, as bits; OWNED: that she OWNS. STUCK, PAWNED, BLUE THINGS, as bits.");
        BorrowedLuck none = Check.coast(WOMAN);
        Check.due("none", none.stuck() | none.pawned() | none.blue() | none.woman(0, 7) | none.woman(0, 8), 0);
        BorrowedLuck x = Check.coast(WOMAN + ";" + (THING + " blue;").repeat(7) + THING + " blue", "stick if wed < 8");
        Check.due("all blue", x.blue(), 255);
        for (int t = 0; t < 8; t++) {
            x.wed(0, t);
        }
        Check.due("all stuck", x.stuck(), 255);
        for (int t = 0; t < 8; t++) {
            x.cut(t);
            x.pawn(t);
        }
        Check.due("none stuck", x.stuck(), 0);
        Check.due("all pawned", x.pawned(), 255);
        Check.due("none held", x.woman(0, 7), 0);
        Check.due("all owned", x.woman(0, 8), 255);
    }

    private static void alikeOfEight() {
        Check.says("ALIKE: pairs of THINGS of the same LUCK in each SORT: how many.");
        Check.due("none", new BorrowedLuck().alike(), 0);
        Check.due("one", Check.coast(WOMAN + ";" + THING).alike(), 0);
        Check.due("eight", Check.coast(WOMAN + ";" + (THING + ";").repeat(7) + THING).alike(), 28);
        for (int s = 0; s < 4; s++) {
            String other = ";thing" + " 0".repeat(s) + " 1" + " 0".repeat(3 - s) + " of 0";
            Check.due("unlike in " + s, Check.coast(WOMAN + ";" + THING + other).alike(), 0);
        }
        Check.due("alike but for all else", Check.coast(WOMAN + ";" + WOMAN + ";" + THING + ";thing 0 0 0 0 of 1 worn 9 with 0 blue").alike(), 1);
    }

    private static void shareWithout() {
        Check.says("LUCK in hundredths of that of all WOMEN, rounded down (0 without)");
        Check.due("none at all", Check.coast(WOMAN).share(0, 0), 0);
        BorrowedLuck x = Check.coast("woman 1 0 99 1 purse 0;woman 2 99 99 0 purse 0;woman 0 1 99 0 purse 0");
        Check.due("a third", x.share(0, 0), 33);
        Check.due("two thirds", x.share(1, 0), 66);
        Check.due("none of some", x.share(2, 0), 0);
        Check.due("99 of 100", x.share(1, 1), 99);
        Check.due("1 of 100", x.share(2, 1), 1);
        Check.due("99 of 297", x.share(0, 2), 33);
        Check.due("all", x.share(0, 3), 100);
        Check.due("1 of 694", Check.coast("woman 99 1 1 1 purse 0;".repeat(7) + "woman 1 1 1 1 purse 0").share(7, 0), 0);
    }

    private static void oddsRoundedDown() {
        Check.says("in ten thousandths (rounded down) that on the next DAY some WEDDING is had (each WOMAN and each THING alike); 0 without");
        Check.due("without women", new BorrowedLuck().odds(), 0);
        Check.due("without things", Check.coast(WOMAN).odds(), 0);
        BorrowedLuck x = Check.coast((WOMAN + ";").repeat(2) + WOMAN + ";" + THING, "stick");
        Check.due("3 of 3", x.odds(), 10000);
        x.widow(0, true);
        Check.due("1 of 3", x.odds(), 3333);
        x.widow(0, false);
        x.widow(1, true);
        Check.due("3 of 3, a widow who holds none", x.odds(), 10000);
        x.wed(0, 0);
        Check.due("1 of 3, stuck", x.odds(), 3333);
        x.widow(0, true);
        Check.due("1 of 3, stuck with a widow", x.odds(), 3333);
        x.cut(0);
        x.pawn(0);
        Check.due("0 of 3, pawned", x.odds(), 0);
        BorrowedLuck many = Check.coast((WOMAN + ";").repeat(8) + (THING + ";").repeat(5) + THING);
        Check.tape(many, THING + ";" + THING);
        many.coast();
        Check.due("64 of 64", many.odds(), 10000);
        many.pawn(0);
        Check.due("56 of 64", many.odds(), 8750);
        many.lend(1, 1);
        many.widow(1, true);
        Check.due("49 of 64", many.odds(), 7656);
    }

    private static void trialOfNumbers() {
        Check.says("TRIAL of N DAYS (0 to 60) from now (draws, too; nothing stays)");
        BorrowedLuck x = Check.coast("woman 1 2 3 4 purse 0;thing 1 2 3 4 of 0;love 100;day 999", "stick");
        String was = Check.seen(x);
        Check.due("0", x.trial(0, false), 10);
        Check.due("0, stuck", x.trial(0, true), 0);
        Check.due("1", x.trial(1, false), 11);
        Check.due("1, stuck", x.trial(1, true), 1);
        Check.due("60", x.trial(60, false), 70);
        Check.due("60, stuck", x.trial(60, true), 1);
        Check.same("nothing stays", Check.seen(x), was);
        Check.due("not even an act", x.undo(), false);
        int[] none = {-1, 61, Integer.MIN_VALUE, Integer.MAX_VALUE};
        for (int n : none) {
            Check.refused(x, "trial of " + n, IllegalArgumentException.class, () -> x.trial(n, false));
            Check.refused(x, "trial of " + n + ", stuck", IllegalArgumentException.class, () -> x.trial(n, true));
        }
        Check.due("without women", new BorrowedLuck().trial(60, false), 0);
        Check.due("without women, stuck", new BorrowedLuck().trial(60, true), 0);
        Check.due("without things", Check.coast("woman 1 2 3 4 purse 0;love 100").trial(60, false), 10);
    }

    /** What the first DAY brings is by the third DRAW from each SEED, which is 13 at least and 91 at most by 100. */
    private static void spanOfNumbers() {
        Check.says("SPAN: the least and the greatest LUCK of all WOMEN so from SEED 1, 2, .. 6.");
        int[] thirds = {13, 39, 65, 91, 16, 42};
        for (int i = 0; i < 6; i++) {
            Check.due("the third draw from " + (i + 1), third(i + 1) % 100, thirds[i]);
        }
        spans(13, 0, 0);
        spans(14, 0, 1);
        spans(91, 0, 1);
        spans(92, 1, 1);
        // Luck of so many DAYS from SEED 0, 1, .. 7; the first and the last do not count.
        spansOf(6, 40, new int[] {3, 4, 3, 1, 2, 1, 1, 0});
        spansOf(7, 85, new int[] {4, 7, 5, 5, 5, 6, 6, 6});
        spansOf(7, 66, new int[] {4, 4, 4, 3, 3, 4, 4, 5});
        BorrowedLuck x = Check.coast("woman 1 2 3 4 purse 0;thing 1 2 3 4 of 0;love 50");
        x.seed(99);
        String was = Check.seen(x);
        Check.due("0 days, the least", x.span(0, false), 10);
        Check.due("0 days, the greatest", x.span(0, true), 10);
        Check.due("60 days", x.span(60, false) <= x.span(60, true), true);
        Check.same("nothing stays", Check.seen(x), was);
        int[] none = {-1, 61, Integer.MIN_VALUE, Integer.MAX_VALUE};
        for (int n : none) {
            Check.refused(x, "span of " + n, IllegalArgumentException.class, () -> x.span(n, false));
            Check.refused(x, "span of " + n + ", most", IllegalArgumentException.class, () -> x.span(n, true));
        }
        Check.due("without women", new BorrowedLuck().span(60, false), 0);
        Check.due("without things", Check.coast("woman 1 2 3 4 purse 0").span(60, true), 10);
    }

    private static int third(int seed) {
        int then = seed;
        for (int i = 0; i < 3; i++) {
            then = then * 1103515245 + 12345;
        }
        return then >>> 16 & 32767;
    }

    private static void spans(int love, int least, int most) {
        BorrowedLuck x = Check.coast(WOMAN + ";" + THING + ";love " + love);
        x.seed(51);
        Check.due("the least of a day, love " + love, x.span(1, false), least);
        Check.due("the greatest of a day, love " + love, x.span(1, true), most);
    }

    private static void spansOf(int days, int love, int[] bySeed) {
        int least = Integer.MAX_VALUE;
        int most = Integer.MIN_VALUE;
        for (int seed = 0; seed < bySeed.length; seed++) {
            BorrowedLuck one = Check.coast(WOMAN + ";" + THING + ";love " + love, "");
            one.seed(seed);
            Check.due(days + " days from seed " + seed, one.trial(days, false), bySeed[seed]);
            if (seed >= 1 && seed <= 6) {
                least = Math.min(least, bySeed[seed]);
                most = Math.max(most, bySeed[seed]);
            }
        }
        BorrowedLuck x = Check.coast(WOMAN + ";" + THING + ";love " + love, "");
        Check.due("the least of " + days + " days", x.span(days, false), least);
        Check.due("the greatest of " + days + " days", x.span(days, true), most);
    }

    private static void ledByNone() {
        Check.says("LED: how many rows of THE LOG are of a WOMAN; the DAY of the latest (none).");
        BorrowedLuck x = Check.coast(WOMAN + ";" + WOMAN + ";" + THING + ";thing 0 0 0 0 of 1;day 0");
        Check.due("no rows", x.led(0, false), 0);
        Check.due("no day", x.led(0, true), -1);
        x.wed(0, 0);
        Check.due("a row", x.led(0, false), 1);
        Check.due("day 0", x.led(0, true), 0);
        Check.tape(x, "day 999");
        x.coast();
        x.wed(0, 0);
        x.wed(1, 1);
        Check.due("two rows", x.led(0, false), 2);
        Check.due("day 999", x.led(0, true), 999);
        Check.tape(x, "day 5");
        x.coast();
        x.wed(0, 0);
        Check.due("the latest, not the greatest", x.led(0, true), 5);
        Check.due("the other one's", x.led(1, true), 999);
    }

    private static void countOfAnother() {
        Check.says("NONE for another what.");
        BorrowedLuck x = Check.coast(Check.THREE);
        int[] none = {-1, -2, 12, 13, Integer.MIN_VALUE, Integer.MAX_VALUE};
        for (int what : none) {
            Check.due("count(" + what + ")", x.count(what), -1);
            Check.due("count(" + what + ") of a new one", new BorrowedLuck().count(what), -1);
        }
        Check.due("widows, as bits", x.count(9), 4);
        BorrowedLuck all = Check.coast((WOMAN + " widow;").repeat(7) + WOMAN + " widow");
        Check.due("all widows", all.count(9), 255);
    }
}
