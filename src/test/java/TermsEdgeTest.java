/** The boundaries that "Terms" names: how many, how much, and what there is at first. */
public final class TermsEdgeTest {
    private static final String WOMAN = "woman 1 1 1 1 purse 1";
    private static final String THING = "thing 1 1 1 1 of 0";

    public static void main(String[] args) {
        sorts();
        women();
        luckOfWomen();
        purse();
        wed();
        widow();
        things();
        luckOfThings();
        ownerAndHolder();
        wear();
        stuckAndBlue();
        day();
        price();
        love();
        Check.end();
    }

    /** A text that is right: what count(what) says behind it. */
    private static void counts(String text, int what, int want) {
        Check.due("count(" + what + ") behind " + text, Check.coast(text).count(what), want);
    }

    private static void her(String text, int woman, int what, int want) {
        Check.due("woman(" + woman + ", " + what + ") behind " + text, Check.coast(text).woman(woman, what), want);
    }

    private static void its(String text, int thing, int what, int want) {
        Check.due("thing(" + thing + ", " + what + ") behind " + text, Check.coast(text).thing(thing, what), want);
    }

    private static void wrong(String text, int at) {
        BorrowedLuck x = new BorrowedLuck();
        Check.tape(x, text);
        Check.noNumber("coast of " + text, x::coast);
        Check.due("fault of " + text, x.fault(), at);
        Check.due("women of " + text, x.count(0), 0);
    }

    private static void sorts() {
        Check.says("SORTS a, b, c, d of luck (0 to 3).");
        BorrowedLuck x = Check.coast("woman 5 6 7 8 purse 0;woman 1 1 1 4 purse 0;thing 9 9 9 9 of 0",
                "flow 2 if sort < 1;flow 3 if sort > 2");
        Check.due("flows of the first", x.flows(0, 0, 0), 2);
        Check.due("flows of the last", x.flows(0, 0, 3), 3);
        Check.due("reach of the first", x.reach(0, 0, 0, 5), 0);
        Check.due("reach of the last", x.reach(0, 0, 3, 8), 0);
        Check.due("luckiest of the first", x.luckiest(0), 0);
        Check.due("luckiest of the last", x.luckiest(3), 0);
        Check.due("share of the first", x.share(1, 0), 16);
        Check.due("share of the last", x.share(1, 3), 33);
        int[] none = {-1, 4, Integer.MIN_VALUE, Integer.MAX_VALUE};
        for (int sort : none) {
            Check.noSuch("flows of " + sort, () -> x.flows(0, 0, sort));
            Check.noSuch("reach of " + sort, () -> x.reach(0, 0, sort, 5));
            Check.noSuch("luckiest of " + sort, () -> x.luckiest(sort));
            Check.noSuch("share of " + sort, () -> x.share(0, sort));
        }
    }

    private static void women() {
        Check.says("WOMEN (at most 8, numbered from 0 on)");
        BorrowedLuck x = Check.coast("woman 3 1 1 1 purse 1;" + (WOMAN + ";").repeat(6) + "woman 9 1 1 1 purse 1");
        Check.due("eight", x.count(0), 8);
        Check.due("the first is 0", x.woman(0, 0), 3);
        Check.due("the last is 7", x.woman(7, 0), 9);
        Check.noSuch("no woman 8", () -> x.woman(8, 0));
        Check.noSuch("no woman -1", () -> x.woman(-1, 0));
        Check.tape(x, WOMAN);
        Check.noNumber("a ninth", x::coast);
        Check.due("its first word", x.fault(), 0);
        Check.due("eight still", x.count(0), 8);
        wrong((WOMAN + ";").repeat(8) + WOMAN, 8 * 22);
        Check.noSuch("none at first", () -> new BorrowedLuck().woman(0, 0));
        BorrowedLuck y = Check.coast((WOMAN + ";").repeat(6) + WOMAN);
        Check.noSuch("seven: no woman 7", () -> y.woman(7, 0));
        Check.tape(y, WOMAN);
        Check.due("the eighth in another text", y.coast(), 2);
        Check.due("woman 7", y.woman(7, 9), 4);
    }

    /** Puts a number in each of the four places for LUCK. */
    private static String row(int place, String number) {
        StringBuilder row = new StringBuilder();
        for (int s = 0; s < 4; s++) {
            row.append(' ').append(s == place ? number : "5");
        }
        return row.toString();
    }

    private static void luckOfWomen() {
        Check.says("LUCK of each SORT 0 to 99, PURSE");
        for (int s = 0; s < 4; s++) {
            her("woman" + row(s, "0") + " purse 1", 0, s, 0);
            her("woman" + row(s, "99") + " purse 1", 0, s, 99);
            wrong("woman" + row(s, "100") + " purse 1", 6 + 2 * s);
        }
        her("woman 0 0 0 0 purse 1", 0, 9, 0);
        her("woman 99 99 99 99 purse 1", 0, 9, 396);
        counts(("woman 99 99 99 99 purse 1;").repeat(7) + "woman 99 99 99 99 purse 1", 7, 8 * 396);
    }

    private static void purse() {
        Check.says("purse, day: 0 to 999.");
        her("woman 1 1 1 1 purse 0", 0, 4, 0);
        her("woman 1 1 1 1 purse 999", 0, 4, 999);
        wrong("woman 1 1 1 1 purse 1000", 20);
        Check.says("PURSE 0 to 9999");
        BorrowedLuck x = Check.coast("woman 1 1 1 1 purse 999;thing 0 0 0 0 of 0;thing 0 0 0 0 of 0;price 50");
        Check.due("more than can be told", x.pawn(0), 1049);
        Check.due("and more", x.pawn(1), 1099);
        Check.due("it stays", x.woman(0, 4), 1099);
    }

    private static void wed() {
        Check.says("WED how often 0 to 9 (0 at first)");
        her(WOMAN, 0, 5, 0);
        her(WOMAN + " wed 0", 0, 5, 0);
        her(WOMAN + " wed 9", 0, 5, 9);
        wrong(WOMAN + " wed 10", 26);
    }

    private static void widow() {
        Check.says("a WIDOW or not (not at first)");
        her(WOMAN, 0, 6, 0);
        her(WOMAN + " widow", 0, 6, 1);
        her(WOMAN + " wed 2 widow", 0, 6, 1);
        her(WOMAN + " widow;" + WOMAN, 1, 6, 0);
    }

    private static void things() {
        Check.says("THINGS (at most 8, numbered from 0 on)");
        BorrowedLuck x = Check.coast(WOMAN + ";thing 3 1 1 1 of 0;" + (THING + ";").repeat(6) + "thing 9 1 1 1 of 0");
        Check.due("eight", x.count(1), 8);
        Check.due("the first is 0", x.thing(0, 0), 3);
        Check.due("the last is 7", x.thing(7, 0), 9);
        Check.noSuch("no thing 8", () -> x.thing(8, 0));
        Check.noSuch("no thing -1", () -> x.thing(-1, 0));
        Check.due("all eight held", x.woman(0, 7), 255);
        Check.due("all eight owned", x.woman(0, 8), 255);
        Check.tape(x, THING);
        Check.noNumber("a ninth", x::coast);
        Check.due("its first word", x.fault(), 0);
        Check.due("eight still", x.count(1), 8);
        wrong(WOMAN + ";" + (THING + ";").repeat(8) + THING, 22 + 8 * 19);
        Check.noSuch("none at first", () -> new BorrowedLuck().thing(0, 0));
        BorrowedLuck y = Check.coast(WOMAN + ";" + (THING + ";").repeat(6) + THING);
        Check.noSuch("seven: no thing 7", () -> y.thing(7, 0));
        Check.tape(y, THING);
        Check.due("the eighth in another text", y.coast(), 2);
        Check.due("thing 7", y.thing(7, 9), 4);
    }

    private static void luckOfThings() {
        Check.says("LUCK of each SORT 0 to 99, an OWNER");
        for (int s = 0; s < 4; s++) {
            its(WOMAN + ";thing" + row(s, "0") + " of 0", 0, s, 0);
            its(WOMAN + ";thing" + row(s, "99") + " of 0", 0, s, 99);
            wrong(WOMAN + ";thing" + row(s, "100") + " of 0", 28 + 2 * s);
        }
        its(WOMAN + ";thing 99 99 99 99 of 0", 0, 9, 396);
        counts(WOMAN + ";" + "thing 99 99 99 99 of 0;".repeat(7) + "thing 99 99 99 99 of 0", 8, 8 * 396);
    }

    private static void ownerAndHolder() {
        Check.says("a HOLDER (a WOMAN; the OWNER at first; none: it is PAWNED)");
        String eight = (WOMAN + ";").repeat(8);
        its(eight + "thing 1 1 1 1 of 0", 0, 4, 0);
        its(eight + "thing 1 1 1 1 of 7", 0, 4, 7);
        its(eight + "thing 1 1 1 1 of 7", 0, 5, 7);
        its(eight + "thing 1 1 1 1 of 7 with 0", 0, 5, 0);
        its(eight + "thing 1 1 1 1 of 0 with 7", 0, 5, 7);
        its(eight + "thing 1 1 1 1 of 3 with 3", 0, 5, 3);
        wrong(eight + "thing 1 1 1 1 of 8", 176 + 17);
        wrong(eight + "thing 1 1 1 1 of 0 with 8", 176 + 24);
        BorrowedLuck x = Check.coast(WOMAN + ";" + THING);
        x.pawn(0);
        Check.due("none holds it", x.thing(0, 5), BorrowedLuck.NONE);
        Check.due("its owner stays", x.thing(0, 4), 0);
        Check.due("she holds none", x.woman(0, 7), 0);
        Check.due("she owns it", x.woman(0, 8), 1);
    }

    private static void wear() {
        Check.says("WEAR 0 to 99 (0 at first)");
        its(WOMAN + ";" + THING, 0, 6, 0);
        its(WOMAN + ";" + THING + " worn 0", 0, 6, 0);
        its(WOMAN + ";" + THING + " worn 99", 0, 6, 99);
        wrong(WOMAN + ";" + THING + " worn 100", 22 + 24);
    }

    private static void stuckAndBlue() {
        Check.says("STUCK or not (not at first), BLUE or not.");
        its(WOMAN + ";" + THING + " worn 99 with 0 blue", 0, 7, 0);
        its(WOMAN + ";" + THING + " worn 99 with 0 blue", 0, 8, 1);
        its(WOMAN + ";" + THING + " blue;" + THING, 1, 8, 0);
        BorrowedLuck x = Check.coast(WOMAN + ";" + THING, "stick");
        Check.due("not by the law alone", x.thing(0, 7), 0);
        x.wed(0, 0);
        Check.due("by a wedding", x.thing(0, 7), 1);
        Check.tape(x, THING);
        x.coast();
        Check.due("another one is not", x.thing(1, 7), 0);
    }

    private static void day() {
        Check.says("DAY 0 to 9999 (0 at first).");
        counts("", 4, 0);
        counts("day 0", 4, 0);
        counts("day 999", 4, 999);
        wrong("day 1000", 4);
        wrong("day 9999", 4);
        BorrowedLuck x = Check.coast("day 999");
        x.days(1);
        Check.due("more than can be told", x.count(4), 1000);
        Check.tape(x, "day 0");
        x.coast();
        Check.due("told again", x.count(4), 0);
    }

    private static void price() {
        Check.says("PRICE 0 to 50 (5 at first): what the pawnbroker gives.");
        counts("", 5, 5);
        counts("price 0", 5, 0);
        counts("price 50", 5, 50);
        wrong("price 51", 6);
        wrong("price 100", 6);
        String one = WOMAN + ";" + THING;
        Check.due("5 at first", Check.coast(one).pawn(0), 6);
        Check.due("0", Check.coast(one + ";price 0").pawn(0), 1);
        Check.due("50", Check.coast(one + ";price 50").pawn(0), 51);
    }

    private static void love() {
        Check.says("LOVE 0 to 100 (20 at first).");
        counts("", 6, 20);
        counts("love 0", 6, 0);
        counts("love 100", 6, 100);
        wrong("love 101", 5);
        wrong("love 999", 5);
    }
}
