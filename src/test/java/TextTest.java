/** Promises 1 to 6 and 10: the TAPE, texts of THE COAST and of THE LAW, and what THE LAW says. */
public final class TextTest {
    private static final String WOMAN = "woman 1 2 3 4 purse 5";

    public static void main(String[] args) {
        promise1NewObject();
        promise2Feed();
        promise3End();
        promise4CoastIsTold();
        promise4CoastWithoutBlanks();
        promise4TwelveTexts();
        promise4WrongText();
        promise6FaultsOfCoast();
        promise6TooMany();
        promise5LawIsTold();
        promise5LawInPlaceOfAnother();
        promise6FaultsOfLaw();
        promise10Flows();
        promise10Conditions();
        Check.end();
    }

    private static void promise1NewObject() {
        BorrowedLuck x = new BorrowedLuck();
        int[] due = {0, 0, 0, -1, 0, 5, 20, 0, 0, 0, 0, 0};
        for (int what = 0; what < due.length; what++) {
            Check.due("a new object: count(" + what + ")", x.count(what), due[what]);
        }
        Check.due("a new object: fault()", x.fault(), -1);
        Check.due("a new object: seed(1)", x.seed(1), 1);
        Check.due("a new object: back()", x.back(), false);
        Check.due("a new object: undo()", x.undo(), false);
        Check.due("a new object: end(1)", x.end(1), false);
        Check.due("a new object: best thing of nobody", x.unlucky(), -1);
        Check.due("a new object: odds()", x.odds(), 0);
        Check.due("NONE", BorrowedLuck.NONE, -1);
    }

    private static void promise2Feed() {
        BorrowedLuck x = new BorrowedLuck();
        for (int i = 1; i <= 20; i++) {
            Check.due("feed of 20 more", x.feed(i, i, i, i, i), 20L * i);
        }
        Check.due("feed beyond 400", x.feed(1, 1, 1, 1, 1), -1);
        Check.due("the tape has 400 still", x.end(401), false);
        Check.due("381 of them", x.end(381), true);
        Check.due("feed to 401", x.feed(1, 1, 1, 1, 1), -1);
        Check.due("380 of them", x.end(380), true);
        Check.due("feed to 400", x.feed(1, 1, 1, 1, 1), 400);

        x = Check.coast("woman 1 2 3 4 purse 0;woman 1 2 3 99 purse 0");
        Check.due("feed, the highest byte first", x.feed(0x00010102, 0x02030363, 0, 0, 0), 20);
        Check.due("eight of them", x.end(8), true);
        Check.due("who has 1 2 3 99", x.whose(), 2);
        x.feed(0, 0, 0, 0, -1);
        Check.noNumber("255 is no luck", x::whose);
    }

    private static void promise3End() {
        BorrowedLuck x = new BorrowedLuck();
        Check.due("end(0) of none", x.end(0), true);
        x.feed(1, 2, 3, 4, 5);
        Check.due("end(-1)", x.end(-1), false);
        Check.due("end(21) of 20", x.end(21), false);
        Check.due("nothing happened", x.end(20), true);
        Check.due("end(7)", x.end(7), true);
        Check.due("end(8) of 7", x.end(8), false);
        Check.due("feed behind them", x.feed(1, 2, 3, 4, 5), 27);
    }

    private static void promise4CoastIsTold() {
        BorrowedLuck x = new BorrowedLuck();
        Check.tape(x, "  woman 1 02 003 99  purse 999 wed 9 widow ; thing 0 1 2 3 of 0 worn 99 with 0 blue;price 50;"
                + "love 100;day 999 ");
        Check.due("coast()", x.coast(), 1);
        int[] her = {1, 2, 3, 99, 999, 9, 1, 1, 1, 105};
        int[] its = {0, 1, 2, 3, 0, 0, 99, 0, 1, -93};
        for (int what = 0; what < 10; what++) {
            Check.due("woman(0, " + what + ")", x.woman(0, what), her[what]);
            Check.due("thing(0, " + what + ")", x.thing(0, what), its[what]);
        }
        Check.due("day", x.count(4), 999);
        Check.due("price", x.count(5), 50);
        Check.due("love", x.count(6), 100);
        Check.due("the tape is used up", x.end(1), false);

        Check.tape(x, "woman 5 5 5 5 purse 0;thing 1 1 1 1 of 0;thing 2 2 2 2 of 1 with 0;love 3;love 0;price 0;day 0");
        Check.due("another text", x.coast(), 2);
        Check.due("women", x.count(0), 2);
        Check.due("things", x.count(1), 3);
        Check.due("the holder at first is the owner", x.thing(1, 5), 0);
        Check.due("owner", x.thing(2, 4), 1);
        Check.due("holder", x.thing(2, 5), 0);
        Check.due("not worn", x.thing(2, 6), 0);
        Check.due("not blue", x.thing(2, 8), 0);
        Check.due("not wed", x.woman(1, 5), 0);
        Check.due("no widow", x.woman(1, 6), 0);
        Check.due("the latest love", x.count(6), 0);
        Check.tape(x, "   ");
        Check.due("blanks alone are a text", x.coast(), 3);
        Check.due("none is a text", x.coast(), 4);
        Check.due("texts", x.count(2), 4);
    }

    private static void promise4CoastWithoutBlanks() {
        BorrowedLuck x = Check.coast("woman1 2 3 4purse5wed6widow;thing9 8 7 6of0worn5with0blue;price7;love8;day9");
        Check.due("wed", x.woman(0, 5), 6);
        Check.due("widow", x.woman(0, 6), 1);
        Check.due("worn", x.thing(0, 6), 5);
        Check.due("blue", x.thing(0, 8), 1);
        Check.due("day", x.count(4), 9);
    }

    private static void promise4TwelveTexts() {
        BorrowedLuck x = new BorrowedLuck();
        for (int i = 1; i <= 12; i++) {
            Check.tape(x, "day " + i);
            Check.due("text " + i, x.coast(), i);
        }
        Check.tape(x, "day 1000");
        Check.noNumber("a wrong 13th text", x::coast);
        Check.due("its first wrong byte", x.fault(), 4);
        Check.tape(x, "day 13");
        Check.fails("a 13th text", UnsupportedOperationException.class, x::coast);
        Check.due("it was read and is right", x.fault(), -1);
        Check.due("it is used up", x.end(1), false);
        Check.due("nothing of it stays", x.count(4), 12);
        Check.due("texts", x.count(2), 12);
    }

    private static void promise4WrongText() {
        BorrowedLuck x = Check.coast(Check.THREE);
        String was = Check.seen(x);
        Check.tape(x, "price 9;day 5;" + WOMAN + ";thing 1 1 1 1 of 3;love 101");
        Check.noNumber("a wrong text", x::coast);
        Check.same("behind a wrong text", Check.seen(x), was);
        Check.due("it is used up", x.end(1), false);
        Check.tape(x, "thing 1 1 1 1 of 3");
        Check.noNumber("a woman of a wrong text", x::coast);
        Check.tape(x, WOMAN);
        Check.due("a right one", x.coast(), 2);
        Check.due("its woman has what it says", x.woman(3, 3), 4);
        Check.due("wed nothing of the wrong text", x.woman(3, 5), 0);
    }

    private static void coastFault(String text, int at) {
        BorrowedLuck x = new BorrowedLuck();
        Check.tape(x, text);
        Check.noNumber("coast of " + text, x::coast);
        Check.due("fault of " + text, x.fault(), at);
        Check.tape(x, "day 1");
        x.coast();
        Check.due("fault behind a right text", x.fault(), -1);
    }

    private static void promise6FaultsOfCoast() {
        coastFault("woman", 5);
        coastFault("  woman  ", 9);
        coastFault("woman 1 2 3 4 5", 14);
        coastFault("woman 1 2 3 purse 4", 12);
        coastFault("woman 1 2 3 4 purse", 19);
        coastFault("woman 1 2 3 4 purse wed", 20);
        coastFault("woman 100 2 3 4 purse 5", 6);
        coastFault("woman 1 2 3 1234 purse 5", 12);
        coastFault("woman 1 2 3 4 purse 0001", 20);
        coastFault(WOMAN + " wed", 25);
        coastFault(WOMAN + " wed 10", 26);
        coastFault(WOMAN + " widow wed 1", 28);
        coastFault(WOMAN + " widow widow", 28);
        coastFault(WOMAN + " 5", 22);
        coastFault(WOMAN + " blue", 22);
        coastFault("womans 1 2 3 4 purse 5", 0);
        coastFault("wom an", 0);
        coastFault("Woman 1 2 3 4 purse 5", 0);
        coastFault("thing 1 2 3 4 of 0", 17);
        coastFault(WOMAN + ";thing 1 2 3 4 of 1", 39);
        coastFault(WOMAN + ";thing 1 2 3 4 with 0", 36);
        coastFault(WOMAN + ";thing 1 2 3 4 of 0 worn 100", 46);
        coastFault(WOMAN + ";thing 1 2 3 4 of 0 with 1", 46);
        coastFault(WOMAN + ";thing 1 2 3 4 of 0 with 0 worn 1", 48);
        coastFault(WOMAN + ";thing 1 2 3 4 of 0 blue with 0", 46);
        coastFault(WOMAN + ";thing 1 2 3 4", 35);
        coastFault(WOMAN + ";thing 1 2 3 4 of", 38);
        coastFault(WOMAN + ";thing 1 2 3 4 of 0 worn", 45);
        coastFault(WOMAN + ";thing 1 2 3 4 of 0 with", 45);
        coastFault("price", 5);
        coastFault("love", 4);
        coastFault("day ", 4);
        coastFault("price 51", 6);
        coastFault("price 5 6", 8);
        coastFault("love 101", 5);
        coastFault("day 1000", 4);
        coastFault("day -1", 4);
        coastFault("flow 5", 0);
        coastFault(";", 0);
        coastFault("day 1;", 6);
        coastFault("day 1; ", 7);
        coastFault("day 1;;day 2", 6);
        coastFault("day 1 day 2", 6);
        coastFault("day 1,", 5);
        coastFault("\t", 0);
        coastFault(" \377", 1);
        coastFault("day 1\000", 5);
    }

    private static void promise6TooMany() {
        coastFault("day 1;".repeat(14) + "day 1", 84);
        coastFault("day 1;".repeat(14) + " tax", 85);
        coastFault("day 1;".repeat(14), 84);
        coastFault("woman 1 1 1 1 purse 1;".repeat(8) + " woman 1 1 1 1 purse 1", 177);
        coastFault("woman 1 1 1 1 purse 1;" + "thing 1 1 1 1 of 0;".repeat(8) + "thing 1 1 1 1 of 0", 174);
        BorrowedLuck x = Check.coast("woman 1 1 1 1 purse 1;".repeat(7) + WOMAN);
        Check.due("eight women", x.count(0), 8);
        Check.tape(x, "day 1; " + WOMAN);
        Check.noNumber("a ninth one in another text", x::coast);
        Check.due("the first word", x.fault(), 7);
        Check.tape(x, "day 1;".repeat(13) + "day 3");
        Check.due("14 lines", x.coast(), 2);
        Check.due("the last of them", x.count(4), 3);
    }

    private static void promise5LawIsTold() {
        BorrowedLuck x = Check.coast(Check.THREE);
        Check.tape(x, " flow 60;wear 0 if own;stick if not widow");
        Check.due("law()", x.law(), 3);
        Check.due("lines", x.count(3), 3);
        Check.due("the tape is used up", x.end(1), false);
        Check.tape(x, "flow 1;".repeat(11) + "flow 1");
        Check.due("twelve lines", x.law(), 12);
        Check.due("all of them hold", x.flows(0, 0, 0), 12);
        Check.tape(x, "stick if((((((own))))))or not not not not not not own and not(not(not own or blue))");
        Check.due("six deep, again and again", x.law(), 1);
    }

    private static void promise5LawInPlaceOfAnother() {
        BorrowedLuck x = Check.coast(Check.THREE);
        Check.due("without a text", x.flows(0, 0, 0), 10);
        Check.tape(x, "flow 3;flow 4");
        x.law();
        Check.due("by the text", x.flows(0, 0, 0), 7);
        Check.tape(x, "flow 5;tax");
        Check.noNumber("a wrong law", x::law);
        Check.due("its first wrong byte", x.fault(), 7);
        Check.due("it is used up", x.end(1), false);
        Check.due("the one before stays", x.flows(0, 0, 0), 7);
        Check.due("its lines stay", x.count(3), 2);
        Check.due("an empty law", x.law(), 0);
        Check.due("no line of it holds", x.flows(0, 0, 0), 0);
        Check.due("lines of it", x.count(3), 0);
        Check.due("no luck flows", x.gain(2, 0), 0);
    }

    private static void lawFault(String text, int at) {
        BorrowedLuck x = new BorrowedLuck();
        Check.tape(x, text);
        Check.noNumber("law of " + text, x::law);
        Check.due("fault of " + text, x.fault(), at);
        Check.due("no law stays", x.count(3), -1);
    }

    private static void promise6FaultsOfLaw() {
        lawFault("flow", 4);
        lawFault("flow 61", 5);
        lawFault("wear 1000", 5);
        lawFault("flows 5", 0);
        lawFault("flow 5 own", 7);
        lawFault("flow 5 if", 9);
        lawFault("stick 5", 6);
        lawFault("stick if widow or", 17);
        lawFault("stick if widow and ;", 19);
        lawFault("stick if or own", 9);
        lawFault("stick if own own", 13);
        lawFault("stick if own < 1", 13);
        lawFault("stick if has", 12);
        lawFault("stick if has <", 14);
        lawFault("stick if has < 1 +", 18);
        lawFault("stick if has + < 1", 15);
        lawFault("stick if has = 1", 13);
        lawFault("stick if has < 1 < 2", 17);
        lawFault("stick if has < own", 15);
        lawFault("stick if 1000 < has", 9);
        lawFault("stick if (own", 13);
        lawFault("stick if (has) < 1", 13);
        lawFault("stick if ()", 10);
        lawFault("stick if own)", 12);
        lawFault("stick if not", 12);
        lawFault("stick if notown", 9);
        lawFault("stick if (((((((own", 15);
        lawFault("stick if not (not (not (not own", 24);
        lawFault("stick if ((((((own))))) or (own)", 32);
        lawFault("stick;", 6);
        lawFault("stick;;stick", 6);
        lawFault("stick;".repeat(12) + " stick", 73);
        lawFault("stick;".repeat(12), 72);
        lawFault("woman 1 2 3 4 purse 5", 0);
    }

    private static void promise10Flows() {
        BorrowedLuck x = Check.coast(Check.THREE);
        Check.due("the half is not asked", x.flows(2, 2, 3), 10);
        Check.noSuch("flows of no woman", () -> x.flows(3, 0, 0));
        Check.noSuch("flows of no thing", () -> x.flows(0, -1, 0));
        Check.noSuch("flows of no sort", () -> x.flows(0, 0, 4));
    }

    private static void flows(String law, int woman, int thing, int sort, int due) {
        BorrowedLuck x = Check.coast(Check.THREE, law);
        Check.due(law + ": flows(" + woman + ", " + thing + ", " + sort + ")", x.flows(woman, thing, sort), due);
    }

    private static void promise10Conditions() {
        flows("flow 7 if own or blue and widow", 0, 0, 0, 7);
        flows("flow 7 if own or blue and widow", 0, 2, 0, 0);
        flows("flow 7 if own or blue and widow", 2, 2, 0, 7);
        flows("flow 7 if own or blue and widow", 2, 0, 0, 0);
        flows("flow 7 if (own or blue) and widow", 0, 0, 0, 0);
        flows("flow 7 if (own or blue) and widow", 2, 2, 0, 7);
        flows("flow 7 if not own and blue", 0, 2, 0, 7);
        flows("flow 7 if not own and blue", 0, 0, 0, 0);
        flows("flow 7 if not (own and blue)", 0, 0, 0, 7);
        flows("flow 7 if not not own", 1, 1, 0, 7);
        flows("flow 1 if own;flow 2 if not own;flow 4", 1, 1, 0, 5);
        flows("flow 7 if has < 21", 0, 0, 1, 7);
        flows("flow 7 if has < 20", 0, 0, 1, 0);
        flows("flow 7 if has > 19", 0, 0, 1, 7);
        flows("flow 7 if holds > 89", 2, 1, 1, 7);
        flows("flow 7 if holds > 90", 2, 1, 1, 0);
        flows("flow 7 if wear > 4 and wear < 6", 2, 1, 0, 7);
        flows("flow 7 if wed > 1 and wed < 3", 1, 0, 0, 7);
        flows("flow 7 if sort > 2", 0, 0, 3, 7);
        flows("flow 7 if sort > 2", 0, 0, 2, 0);
        flows("flow 7 if woman + thing + 3 > 5", 1, 2, 0, 7);
        flows("flow 7 if woman + thing + 3 > 5", 1, 1, 0, 0);
        flows("flow 7 if 2 < woman + woman", 1, 1, 0, 0);
        flows("wear 7;stick;flow 9", 1, 1, 0, 9);
    }
}
