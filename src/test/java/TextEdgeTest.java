/** The boundaries of texts: LINES, numbers, words, blanks, depth, the first wrong byte, and that nothing of a wrong one stays. */
public final class TextEdgeTest {
    private static final String WOMAN = "woman 1 1 1 1 purse 1";
    private static final String THING = "thing 1 1 1 1 of 0";
    private static final String PAIR = WOMAN + ";" + THING;

    public static void main(String[] args) {
        twelveTexts();
        fourteenLines();
        womanByThen();
        digitsOfCoast();
        lawInPlaceOfTheOneBefore();
        twelveLinesOfLaw();
        numbersOfLaw();
        flowsWithout();
        wearsAndSticksOfSort0();
        words();
        blanks();
        signsBesideTheRightOnes();
        emptyTexts();
        deepOfOneKind();
        deepOfBothKinds();
        deepAndTrue();
        longestTexts();
        firstWrongByte();
        tooManyFirstWord();
        nothingStays();
        Check.end();
    }

    private static void right(String text) {
        BorrowedLuck x = new BorrowedLuck();
        Check.tape(x, text);
        Check.due("coast of " + text, x.coast(), 1);
        Check.due("fault of " + text, x.fault(), -1);
        Check.due("the tape behind " + text, x.end(1), false);
    }

    private static void wrong(String text, int at) {
        BorrowedLuck x = new BorrowedLuck();
        Check.tape(x, text);
        Check.noNumber("coast of " + text, x::coast);
        Check.due("fault of " + text, x.fault(), at);
        Check.due("texts behind " + text, x.count(2), 0);
        Check.due("the tape behind " + text, x.end(1), false);
    }

    private static void rightLaw(String text, int lines) {
        BorrowedLuck x = new BorrowedLuck();
        Check.tape(x, text);
        Check.due("law of " + text, x.law(), lines);
        Check.due("fault of " + text, x.fault(), -1);
        Check.due("lines of " + text, x.count(3), lines);
        Check.due("the tape behind " + text, x.end(1), false);
    }

    private static void wrongLaw(String text, int at) {
        BorrowedLuck x = new BorrowedLuck();
        Check.tape(x, text);
        Check.noNumber("law of " + text, x::law);
        Check.due("fault of " + text, x.fault(), at);
        Check.due("lines behind " + text, x.count(3), -1);
        Check.due("the tape behind " + text, x.end(1), false);
    }

    private static void flows(String law, int want) {
        Check.due("flows by " + law, Check.coast(PAIR + " blue", law).flows(0, 0, 0), want);
    }

    private static void twelveTexts() {
        Check.says("THE COAST is told in texts (at most 12, one behind another)");
        BorrowedLuck x = new BorrowedLuck();
        for (int i = 1; i <= 12; i++) {
            Check.tape(x, i == 1 ? PAIR : i == 12 ? "love 7" : "");
            Check.due("text " + i, x.coast(), i);
        }
        Check.due("what the first told stays", x.count(1), 1);
        Check.due("what the last told", x.count(6), 7);
        x.widow(0, true);
        String was = Check.seen(x);
        Check.tape(x, "love 8");
        Check.fails("a 13th", UnsupportedOperationException.class, x::coast);
        Check.same("behind it", Check.seen(x), was);
        Check.due("the tape is used up", x.end(1), false);
        Check.fails("an empty 13th", UnsupportedOperationException.class, x::coast);
        Check.tape(x, "love 101");
        Check.noNumber("a wrong 13th: the exception told first", x::coast);
        Check.due("its first wrong byte", x.fault(), 5);
        Check.same("behind it, too", Check.seen(x), was);
        Check.due("acts are remembered", x.undo(), true);
        Check.tape(x, "flow 1");
        Check.due("a law may come", x.law(), 1);
    }

    private static void fourteenLines() {
        Check.says("LINE { ; LINE }, at most 14");
        right("love 1");
        right("love 1;".repeat(13) + "love 1");
        wrong("love 1;".repeat(14) + "love 1", 14 * 7);
        right("love 1 ; ".repeat(13) + "love 1  ");
        wrong("love 1 ; ".repeat(14) + "love 1", 14 * 9);
        Check.due("of all kinds", Check.coast((WOMAN + ";").repeat(8) + (THING + ";").repeat(5) + "day 5").count(4), 5);
    }

    private static void womanByThen() {
        Check.says("H: a WOMAN that there is by then");
        right(PAIR);
        wrong(THING + ";" + WOMAN, 17);
        wrong("thing 1 1 1 1 of 0", 17);
        right(WOMAN + ";" + WOMAN + ";thing 1 1 1 1 of 1 with 1");
        wrong(WOMAN + ";thing 1 1 1 1 of 1;" + WOMAN, 39);
        wrong(WOMAN + ";thing 1 1 1 1 of 0 with 1;" + WOMAN, 46);
        BorrowedLuck x = Check.coast(WOMAN);
        Check.tape(x, "thing 1 1 1 1 of 000");
        Check.due("one of a text before", x.coast(), 2);
        Check.tape(x, "thing 1 1 1 1 of 001");
        Check.noNumber("one that there is not", x::coast);
        Check.due("begins at", x.fault(), 17);
    }

    private static void digitsOfCoast() {
        Check.says("Numbers are of 1 to 3 digits.");
        right("woman 0 00 000 001 purse 000 wed 009 widow;thing 099 099 099 099 of 000 worn 099 with 000 blue;"
                + "price 050;love 100;day 000");
        wrong("woman 0000 1 1 1 purse 1", 6);
        wrong("woman 1 1 1 0001 purse 1", 12);
        wrong("woman 1 1 1 1 purse 0001", 20);
        wrong(WOMAN + " wed 0001", 26);
        wrong(WOMAN + ";thing 1 0001 1 1 of 0", 30);
        wrong(WOMAN + ";thing 1 1 1 1 of 0000", 39);
        wrong(WOMAN + ";thing 1 1 1 1 of 0 worn 0001", 46);
        wrong(WOMAN + ";thing 1 1 1 1 of 0 with 0000", 46);
        wrong("price 0001", 6);
        wrong("love 0001", 5);
        wrong("day 0001", 4);
        wrong("day 99999999999999999999", 4);
        wrong("day 4294967296", 4);
    }

    private static void lawInPlaceOfTheOneBefore() {
        Check.says("THE LAW (a text, in place of the one before)");
        BorrowedLuck x = Check.coast(PAIR, "flow 3;flow 4 if own;stick;wear 5");
        Check.due("the first", x.flows(0, 0, 0), 7);
        Check.tape(x, "flow 2 if not own");
        Check.due("a shorter one", x.law(), 1);
        Check.due("nothing of the first is left", x.flows(0, 0, 0), 0);
        x.wed(0, 0);
        Check.due("it does not stick", x.stuck(), 0);
        Check.due("it wears by 1", x.thing(0, 6), 1);
        for (int i = 0; i < 20; i++) {
            Check.tape(x, "flow " + i);
            Check.due("as many as one likes", x.law(), 1);
        }
        Check.due("the last", x.flows(0, 0, 0), 19);
    }

    private static void twelveLinesOfLaw() {
        Check.says("LINE { ; LINE }, at most 12");
        rightLaw("stick", 1);
        rightLaw("stick;".repeat(11) + "stick", 12);
        wrongLaw("stick;".repeat(12) + "stick", 72);
        wrongLaw("stick;".repeat(12) + "  flow 1 if own", 74);
        rightLaw("flow 60 if own ; ".repeat(11) + "flow 60 if own", 12);
        flows("flow 60 if own ; ".repeat(11) + "flow 60 if own", 720);
        flows("flow 1;".repeat(11) + "flow 60", 71);
        flows("flow 1;".repeat(11) + "flow 60 if not own", 11);
        flows("flow 1 if not own;" + "flow 2;".repeat(10) + "flow 60 if own", 80);
    }

    private static void numbersOfLaw() {
        Check.says("All numbers are of 1 to 3 digits (N 0 to 60).");
        flows("flow 0", 0);
        flows("flow 60", 60);
        flows("flow 060", 60);
        wrongLaw("flow 61", 5);
        wrongLaw("flow 0060", 5);
        wrongLaw("flow 100", 5);
        rightLaw("wear 0", 1);
        rightLaw("wear 60", 1);
        wrongLaw("wear 61", 5);
        wrongLaw("wear 0000", 5);
        flows("flow 1 if 0 < 999", 1);
        flows("flow 1 if 999 < 999 + 1", 1);
        flows("flow 1 if 000 < 001", 1);
        wrongLaw("flow 1 if 0 < 1000", 14);
        wrongLaw("flow 1 if 1000 > 0", 10);
        wrongLaw("flow 1 if 0 < 1 + 0001", 18);
        flows("flow 1 if 61 > 60", 1);
    }

    private static void flowsWithout() {
        Check.says("FLOWS by: the sum of N of all flow LINES that hold (without a text: 10).");
        Check.due("without a text", Check.coast(PAIR).flows(0, 0, 0), 10);
        flows("", 0);
        flows("wear 9;stick", 0);
        flows("flow 9 if not own", 0);
        flows("flow 9 if not own;flow 8;flow 7 if blue", 15);
    }

    private static void wearsAndSticksOfSort0() {
        Check.says("WEARS by: 1 and the sum of N of all wear LINES (of SORT 0).");
        wears("flow 1", 1);
        wears("wear 0", 1);
        wears("wear 7 if sort < 1;wear 9 if sort > 0", 8);
        wears("wear 7 if not own;wear 2", 3);
        wears("wear 60;wear 38", 99);
        wears("wear 60;wear 39", 99);
        wears("wear 60;".repeat(11) + "wear 60", 99);
        BorrowedLuck x = Check.coast(PAIR);
        x.wed(0, 0);
        Check.due("wear without a law", x.thing(0, 6), 1);
        Check.due("nothing sticks without a law", x.stuck(), 0);
        Check.says("STICKS: whether some stick LINE holds (of SORT 0).");
        sticks("stick if sort < 1", 1);
        sticks("stick if sort > 0", 0);
        sticks("stick if not own;stick if own", 1);
        sticks("stick if not own;stick if blue", 0);
        sticks("flow 1;wear 1", 0);
        sticks("", 0);
    }

    private static void wears(String law, int want) {
        BorrowedLuck x = Check.coast(PAIR, law);
        x.wed(0, 0);
        Check.due("wear by " + law, x.thing(0, 6), want);
    }

    private static void sticks(String law, int want) {
        BorrowedLuck x = Check.coast(PAIR, law);
        x.wed(0, 0);
        Check.due("stuck by " + law, x.stuck(), want);
    }

    private static void words() {
        Check.says("Words are as long as a to z go on");
        wrong("womanwidow", 0);
        wrong("loves 1", 0);
        wrong("lov 1", 0);
        wrong("l ove 1", 0);
        wrong("lo ve 1", 0);
        wrong("Love 1", 0);
        wrong("lovE 1", 0);
        wrong("lovea 1", 0);
        wrong("lovez 1", 0);
        wrong("zlove 1", 0);
        wrong("love 1 ; dayz2", 9);
        wrong("love 1z", 6);
        wrongLaw("stick if ownz", 9);
        wrongLaw("stick if has<1z", 14);
        wrong(WOMAN + " wedwidow", 22);
        wrong(WOMAN + " widows", 22);
        wrong("woman 1 1 1 1 purses 1", 14);
        wrong("abcdefghijklmnopqrstuvwxyz".repeat(10), 0);
        right("love1;day2;price3;woman1 1 1 1purse1wed1widow;thing1 1 1 1of0worn1with0blue");
        rightLaw("flow1if own and blue or widow", 1);
        wrongLaw("flow1ifown", 5);
        wrongLaw("flow 1 if ownand blue", 10);
        wrongLaw("flow 1 if own andblue", 14);
        rightLaw("flow 1 if 1<2and 2>1or not(own)and not own", 1);
        wrongLaw("sticks", 0);
        wrongLaw("stic", 0);
        wrongLaw("stick if notown", 9);
        rightLaw("stick if not(own)", 1);
    }

    private static void blanks() {
        Check.says("between all there may be blanks (32), also ahead and behind");
        right("   love    1   ;   day   2   ");
        right("  woman  1  1  1  1  purse  1  wed  1  widow  ;  thing  1  1  1  1  of  0  worn  1  with  0  blue  ");
        rightLaw("  flow  1  if  (  1  +  2  <  has  )  and  not  own  or  (  blue  )  ;  stick  ", 2);
        wrong("love\t1", 4);
        wrong("love\n1", 4);
        wrong("love 1\r", 6);
        wrong("love\2401", 4);
    }

    private static void signsBesideTheRightOnes() {
        Check.says("the begin of the first thing that cannot stand there");
        int[] none = {0, 9, 10, 31, 33, 47, 58, 64, 65, 90, 96, 123, 127, 128, 176, 224, 255};
        for (int sign : none) {
            wrong((char) sign + "day 1", 0);
            wrong("  " + (char) sign, 2);
            wrong("day" + (char) sign + "1", 3);
            wrong("day 1" + (char) sign, 5);
            wrongLaw("stick if " + (char) sign, 9);
            wrongLaw("stick if own" + (char) sign, 12);
            wrongLaw("stick if has" + (char) sign + "1", 12);
        }
        wrong("day +1", 4);
        wrong("day (1)", 4);
        wrongLaw("stick if 1<-1", 11);
        wrongLaw("stick if 1<>1", 11);
        wrongLaw("stick if 1=1", 10);
    }

    private static void emptyTexts() {
        Check.says("A text that is empty, or blanks alone, has no LINE.");
        right("");
        right(" ");
        right(" ".repeat(400));
        rightLaw("", 0);
        rightLaw(" ", 0);
        rightLaw(" ".repeat(400), 0);
        BorrowedLuck x = Check.coast(Check.THREE);
        String was = Check.seen(x);
        Check.tape(x, "   ");
        Check.due("a text all the same", x.coast(), 2);
        Check.due("women stay", x.count(0), 3);
        Check.due("texts", x.count(2), 2);
        Check.same("all else stays", Check.seen(x).replaceFirst("^3 3 2 ", "3 3 1 "), was);
        wrong(";", 0);
        wrong("  ;", 2);
        wrong("love 1;", 7);
        wrong("love 1;;love 1", 7);
        wrong(";love 1", 0);
        wrongLaw(";", 0);
        wrongLaw("stick;", 6);
        wrongLaw("stick; ;stick", 7);
    }

    private static void deepOfOneKind() {
        Check.says("( and not within one another at most 6 deep.");
        for (int deep = 1; deep <= 6; deep++) {
            rightLaw("stick if " + "(".repeat(deep) + "own" + ")".repeat(deep), 1);
            rightLaw("stick if " + "not ".repeat(deep) + "own", 1);
        }
        for (int deep = 7; deep <= 9; deep++) {
            wrongLaw("stick if " + "(".repeat(deep) + "own" + ")".repeat(deep), 15);
            wrongLaw("stick if " + "not ".repeat(deep) + "own", 33);
        }
        wrongLaw("stick if " + "(".repeat(390), 15);
    }

    private static void deepOfBothKinds() {
        Check.says("the ( or not that is a 7th one deep");
        rightLaw("stick if not(not(not(own)))", 1);
        wrongLaw("stick if not(not(not(not own)))", 21);
        wrongLaw("stick if not(not(not((own))))", 21);
        rightLaw("stick if (not(not(not own)))", 1);
        wrongLaw("stick if (not(not(not not own)))", 22);
        rightLaw("stick if ((((((own)))))) and ((((((own)))))) or ((((((own))))))", 1);
        rightLaw("stick if ((((((own) or (own)) and (own))))) and not (((((own)))))", 1);
        wrongLaw("stick if ((((((own)))))) and not ((((((own))))))", 38);
        wrongLaw("stick if own or ((((((own or (own)))))))", 29);
        rightLaw("stick if ((((((own))))));stick if ((((((own))))));stick if not not not not not not own", 3);
        wrongLaw("stick if (((((( not own))))))", 16);
        wrongLaw("stick if ((((((", 15);
        wrongLaw("stick if not not not not not not", 32);
    }

    private static void deepAndTrue() {
        Check.says("( and not within one another at most 6 deep.");
        flows("flow 1 if not not not not not not own", 1);
        flows("flow 1 if not not not not not own", 0);
        String open = "widow or own and (".repeat(6);
        flows("flow 1 if " + open + "1+1<1+2" + ")".repeat(6), 1);
        flows("flow 1 if " + open + "1+2<1+2" + ")".repeat(6), 0);
        flows("flow 1 if " + "widow or not (".repeat(3) + "1+1<1+2" + ")".repeat(3), 0);
        flows("flow 1 if " + "widow or not (".repeat(3) + "1+2<1+2" + ")".repeat(3), 1);
        flows("flow 1 if " + "widow or not (".repeat(3) + "1+2>1+1 and own or widow" + ")".repeat(3), 0);
    }

    private static void longestTexts() {
        Check.says("if it would have more than 400");
        right("love 1" + " ".repeat(393) + " ");
        wrong("love" + " ".repeat(396), 400);
        wrong("love 1" + " ".repeat(393) + ";", 400);
        wrong(" ".repeat(399) + "x", 399);
        right("love" + " ".repeat(395) + "1");
        String long99 = "flow 1 if " + "999+".repeat(96);
        flows(long99 + "1>0", 1);
        flows(long99 + "1<0", 0);
        flows("flow 1 if 0<" + "1+".repeat(193) + "1", 1);
        flows("flow 1 if " + "own and ".repeat(48) + "widow", 0);
        flows("flow 1 if " + "widow or ".repeat(43) + "own", 1);
    }

    private static void firstWrongByte() {
        Check.says("or the text's length, if more must come");
        String[] open = {"woman", "woman 1", "woman 1 1 1 1", "woman 1 1 1 1 purse", WOMAN + " wed", WOMAN + ";", "thing",
            WOMAN + ";thing 1 1 1", WOMAN + ";thing 1 1 1 1", WOMAN + ";thing 1 1 1 1 of", PAIR + " worn", PAIR + " with",
            "price", "love", "day", "day 1;"};
        for (String text : open) {
            wrong(text, text.length());
            wrong(text + "  ", text.length() + 2);
            wrong(" " + text, text.length() + 1);
        }
        String[] openLaw = {"flow", "wear", "flow 1 if", "stick if", "stick if not", "stick if (", "stick if (own", "stick if has",
            "stick if 5", "stick if has +", "stick if has <", "stick if has < 1 +", "stick if own and", "stick if own or",
            "stick if (own)and(own", "stick;"};
        for (String text : openLaw) {
            wrongLaw(text, text.length());
            wrongLaw(text + "  ", text.length() + 2);
            wrongLaw(" " + text, text.length() + 1);
        }
        Check.says("or out of its bounds, or that tells none that can be; a word that is none");
        wrong("woman 1 1 1 100 purse 1", 12);
        wrong("woman 1 1 1 1 1", 14);
        wrong("woman 1 1 1 purse", 12);
        wrong("woman widow", 6);
        wrong(WOMAN + " wed widow", 26);
        wrong(WOMAN + " wed 1 wed 1", 28);
        wrong(WOMAN + " love 1", 22);
        wrong(PAIR + " with 0 with 0", 48);
        wrong(PAIR + " blue blue", 46);
        wrong(PAIR + " blue worn 1", 46);
        wrong(PAIR + " worn blue", 46);
        wrong("love 1 love 2", 7);
        wrong("love 1 2", 7);
        wrong("love love 2", 5);
        wrong("1", 0);
        wrong("if", 0);
        wrongLaw("flow if own", 5);
        wrongLaw("flow 1 2", 7);
        wrongLaw("flow 1 or own", 7);
        wrongLaw("stick own", 6);
        wrongLaw("stick if purse < 1", 9);
        wrongLaw("stick if own or and", 16);
        wrongLaw("stick if widow < 1", 15);
        wrongLaw("stick if 1 < widow", 13);
        wrongLaw("stick if has < 1 + own", 19);
        wrongLaw("stick if (1) < 2", 11);
        wrongLaw("stick if (own and", 17);
        wrongLaw("stick if (own;stick)", 13);
        wrongLaw("stick if own if own", 13);
        wrongLaw("love 1", 0);
    }

    private static void tooManyFirstWord() {
        Check.says("of a LINE, a WOMAN, a THING too many, the first word");
        wrong("love 1;".repeat(14) + "  " + WOMAN, 100);
        wrong("love 1;".repeat(14) + "love 101", 98);
        wrong("love 1;".repeat(14), 98);
        wrong("love 1;".repeat(13) + "love 101;love 1", 96);
        wrong((WOMAN + ";").repeat(8) + "  woman 100", 178);
        wrong((WOMAN + ";").repeat(8) + "woman", 176);
        wrong(WOMAN + ";" + (THING + ";").repeat(8) + "thing", 174);
        wrong(WOMAN + ";" + (THING + ";").repeat(8) + " thing 1 1 1 1 of 9", 175);
        right((WOMAN + ";").repeat(8) + THING);
        right(WOMAN + ";" + (THING + ";").repeat(8) + WOMAN);
        wrongLaw("flow 1;".repeat(12) + " flow 61", 85);
        wrongLaw("flow 1;".repeat(12), 84);
        wrongLaw("flow 1;".repeat(11) + "flow 61;flow 1", 82);
    }

    private static void nothingStays() {
        Check.says("Of a wrong text nothing stays.");
        BorrowedLuck x = Check.coast(PAIR, "flow 3 if own");
        x.wed(0, 0);
        x.image();
        String was = Check.seen(x);
        String told = "woman 9 9 9 9 purse 9 widow;thing 9 9 9 9 of 1 blue;price 9;love 9;day 9;";
        String[] wrong = {"x", "", "love 101", "woman 1 1 1 1 purse 1 wed 10", "thing 1 1 1 1 of 2", "thing 1 1 1 1 of 1 with 2"};
        for (String last : wrong) {
            Check.tape(x, told + last);
            Check.noNumber("coast with " + last, x::coast);
            Check.same("behind coast with " + last, Check.seen(x), was);
        }
        String[] wrongLaws = {"x", "", "flow 61", "stick if", "flow 9 if (own", "wear 9 if has < own"};
        for (String last : wrongLaws) {
            Check.tape(x, "flow 9;wear 9;stick;" + last);
            Check.noNumber("law with " + last, x::law);
            Check.same("behind law with " + last, Check.seen(x), was);
        }
        Check.due("acts are remembered", x.undo(), true);
        Check.due("the image is kept", x.back(), true);
        Check.due("with its wedding", x.count(10), 1);
        Check.tape(x, THING);
        Check.due("a right one goes on from there", x.coast(), 2);
        Check.due("its things", x.count(1), 2);
        Check.due("not blue by what was wrong", x.blue(), 0);
    }
}
