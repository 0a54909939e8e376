/** The boundaries of the TAPE, fault(), acts undone and THE IMAGE. */
public final class MemoryEdgeTest {
    private static final String PAIR = "woman 9 8 7 6 purse 9;thing 5 4 3 2 of 0";

    public static void main(String[] args) {
        feedOfFourHundred();
        feedHighestFirst();
        endOfTheTape();
        faultOfTheLatest();
        seedOfAny();
        undoOfNothing();
        undoOfTwelve();
        undoAndActsAgain();
        undoOfDaysOfOneCall();
        undoOfAFullLog();
        undoIsForgottenByTexts();
        undoIsForgottenByGoingBack();
        undoButForTheTape();
        whatIsNoAct();
        imageOfNothing();
        imageOfANewCoast();
        imageIsOne();
        imageButForTheTape();
        imageOfTexts();
        Check.end();
    }

    private static void feedOfFourHundred() {
        Check.says("how many it has; NONE, and none come, if it would have more than 400");
        BorrowedLuck x = new BorrowedLuck();
        for (int i = 1; i <= 20; i++) {
            Check.due("feed", x.feed(0x20202020, 0x20202020, 0x20202020, 0x20202020, 0x20202020), 20 * i);
        }
        Check.due("one more", x.feed(0, 0, 0, 0, 0), -1);
        Check.due("and one more", x.feed(0, 0, 0, 0, 0), -1);
        Check.due("400 and no more", x.end(401), false);
        Check.due("blanks alone", x.coast(), 1);
        Check.due("used up, so it may come again", x.feed(0, 0, 0, 0, 0), 20);
        int[][] ends = {{379, 399}, {380, 400}, {381, -1}, {399, -1}, {400, -1}};
        for (int[] row : ends) {
            BorrowedLuck y = new BorrowedLuck();
            for (int i = 0; i < 20; i++) {
                y.feed(0, 0, 0, 0, 0);
            }
            y.end(row[0]);
            Check.due("feed behind " + row[0], y.feed(0, 0, 0, 0, 0), row[1]);
            Check.due("so many are there", y.end(row[1] < 0 ? row[0] : row[1]), true);
            Check.due("and no more", y.end((row[1] < 0 ? row[0] : row[1]) + 1), false);
        }
    }

    private static void feedHighestFirst() {
        Check.says("Twenty bytes come behind the TAPE, of each number the highest first");
        BorrowedLuck x = Check.coast("woman 0 1 2 3 purse 0;woman 0 1 2 99 purse 0");
        x.feed(0x00000101, 0x02020303, 0x00000101, 0x02020303, 0x00000101);
        Check.due("of each number", x.whose(), 1);
        x.feed(0x00000101, 0x02020363, 0, 0, 0x03630000);
        Check.due("of the first and the last", x.whose(), 2);
        x.feed(0x00000101, 0x02020363, 0, 0, 0x03030000);
        Check.due("the last tells another", x.whose(), 0);
        x.feed(0x00000101, 0, 0, 0, 0);
        x.end(2);
        x.feed(0x01010202, 0, 0, 0, 0);
        x.end(6);
        Check.due("behind what is there", x.whose(), 3);
        x.feed(-1, -1, -1, -1, -1);
        x.end(1);
        Check.tape(x, "");
        x.feed(0xff000000, 0, 0, 0, 0);
        x.end(1);
        Check.noNumber("a byte of 255", x::coast);
        Check.due("is the first wrong one", x.fault(), 0);
    }

    private static void endOfTheTape() {
        Check.says("The TAPE has its first n bytes alone: true; false, and nothing happens, if it has fewer, or n is below 0.");
        BorrowedLuck x = new BorrowedLuck();
        Check.due("0 of none", x.end(0), true);
        Check.due("1 of none", x.end(1), false);
        x.feed(0, 0, 0, 0, 0);
        int[] none = {21, -1, -20, 400, Integer.MIN_VALUE, Integer.MAX_VALUE};
        for (int n : none) {
            Check.due("end(" + n + ") of 20", x.end(n), false);
        }
        Check.due("20 are there", x.end(20), true);
        Check.due("19", x.end(19), true);
        Check.due("20 of 19", x.end(20), false);
        Check.due("19 of 19", x.end(19), true);
        Check.due("none of 19", x.end(0), true);
        Check.due("1 of none again", x.end(1), false);
        Check.tape(x, "day 12");
        x.end(5);
        x.coast();
        Check.due("the first bytes, not the last", x.count(4), 1);
    }

    private static void faultOfTheLatest() {
        Check.says("The first wrong byte of the latest text that was read; NONE without one, and ahead of any.");
        BorrowedLuck x = new BorrowedLuck();
        Check.due("ahead of any", x.fault(), -1);
        Check.tape(x, "day x");
        Check.due("not read yet", x.fault(), -1);
        Check.noNumber("read", x::coast);
        Check.due("of it", x.fault(), 4);
        Check.due("asked again", x.fault(), 4);
        Check.tape(x, "x");
        Check.due("of the one before still", x.fault(), 4);
        Check.noNumber("a wrong law", x::law);
        Check.due("of the law", x.fault(), 0);
        Check.tape(x, "\004\000");
        Check.noNumber("no text", x::whose);
        Check.due("of the law still", x.fault(), 0);
        Check.due("no text, though right", x.whose(), 0);
        Check.due("of the law still, too", x.fault(), 0);
        Check.due("an empty law", x.law(), 0);
        Check.due("without a wrong byte", x.fault(), -1);
        Check.tape(x, "day");
        Check.noNumber("a text that is too short", x::coast);
        Check.due("its length", x.fault(), 3);
        Check.due("an empty text", x.coast(), 1);
        Check.due("without a wrong byte, too", x.fault(), -1);
        Check.tape(x, "a" + " ".repeat(399));
        Check.noNumber("the first of 400", x::law);
        Check.due("0", x.fault(), 0);
    }

    private static void seedOfAny() {
        Check.says("SEED: what it was.");
        BorrowedLuck x = new BorrowedLuck();
        int[] seeds = {1, 0, -1, Integer.MIN_VALUE, Integer.MAX_VALUE, 1};
        for (int i = 0; i + 1 < seeds.length; i++) {
            Check.due("seed(" + seeds[i + 1] + ")", x.seed(seeds[i + 1]), seeds[i]);
        }
    }

    private static void undoOfNothing() {
        Check.says("UNDONE: whether there was one.");
        BorrowedLuck x = new BorrowedLuck();
        Check.due("a new object", x.undo(), false);
        Check.due("none are remembered", x.count(11), 0);
        BorrowedLuck y = Check.coast(PAIR);
        String was = Check.seen(y);
        Check.due("behind a text", y.undo(), false);
        Check.same("nothing happens", Check.seen(y), was);
        y.wed(0, 0);
        Check.due("a wedding", y.undo(), true);
        Check.same("all is as ahead of it", Check.seen(y), was);
        Check.due("once alone", y.undo(), false);
        Check.same("nothing happens again", Check.seen(y), was);
    }

    private static void undoOfTwelve() {
        Check.says("12 are remembered");
        BorrowedLuck x = Check.coast(PAIR);
        for (int i = 1; i <= 11; i++) {
            x.days(1);
            Check.due("acts", x.count(11), i);
        }
        x.days(1);
        Check.due("twelve", x.count(11), 12);
        x.days(1);
        Check.due("twelve of thirteen", x.count(11), 12);
        for (int i = 12; i >= 1; i--) {
            Check.due("undo", x.undo(), true);
            Check.due("the day then", x.count(4), i);
            Check.due("acts then", x.count(11), i - 1);
        }
        Check.due("the first is forgotten", x.undo(), false);
        Check.due("its day stays", x.count(4), 1);
        for (int i = 0; i < 30; i++) {
            x.days(1);
        }
        Check.due("twelve of thirty", x.count(11), 12);
        for (int i = 0; i < 12; i++) {
            x.undo();
        }
        Check.due("eighteen stay", x.count(4), 19);
        Check.due("and no more go", x.undo(), false);
    }

    private static void undoAndActsAgain() {
        Check.says("the latest ACT not undone yet");
        BorrowedLuck x = Check.coast(PAIR);
        x.days(1);
        x.days(2);
        x.undo();
        x.days(3);
        Check.due("two acts", x.count(11), 2);
        Check.due("days 1 and 3", x.count(4), 4);
        x.undo();
        Check.due("the 3 are undone", x.count(4), 1);
        x.undo();
        Check.due("the 1 is", x.count(4), 0);
        Check.due("the 2 were", x.undo(), false);
    }

    private static void undoOfDaysOfOneCall() {
        Check.says("DAYS of one call are one");
        BorrowedLuck x = Check.coast(PAIR);
        String was = Check.seen(x);
        x.days(60);
        Check.due("one act", x.count(11), 1);
        x.undo();
        Check.same("all 60 are undone", Check.seen(x), was);
    }

    private static void undoOfAFullLog() {
        Check.says("all is as ahead of it (but for the TAPE, fault(), THE IMAGE)");
        for (int rows = 0; rows <= 60; rows += 12) {
            BorrowedLuck x = Check.coast("woman 9 8 7 6 purse 9;woman 1 2 3 4 purse 0;thing 50 40 30 20 of 0;thing 0 9 8 7 of 1", "flow 2");
            if (rows > 0) {
                x.days(rows);
            }
            String was = Check.seen(x);
            x.image();
            x.days(50);
            x.days(60);
            x.undo();
            x.undo();
            Check.same("rows of the log, undone: " + rows, Check.seen(x), was);
            x.days(60);
            x.back();
            Check.same("rows of the log, gone back to: " + rows, rest(Check.seen(x)), rest(was));
        }
    }

    /** All that is seen but for how many acts can be undone, the twelfth number. */
    private static String rest(String seen) {
        return seen.replaceFirst("^((\\S+ ){11})\\S+ ", "$1");
    }

    private static void undoIsForgottenByTexts() {
        Check.says("A text, going back: none are remembered.");
        BorrowedLuck x = Check.coast(PAIR);
        x.wed(0, 0);
        Check.tape(x, "x");
        Check.noNumber("a wrong text", x::coast);
        Check.tape(x, "x");
        Check.noNumber("a wrong law", x::law);
        x.whose();
        x.next();
        Check.due("remembered", x.count(11), 1);
        x.coast();
        Check.due("an empty text", x.count(11), 0);
        Check.due("none is undone", x.undo(), false);
        Check.due("the wedding stays", x.count(10), 1);
        x.wed(0, 0);
        x.law();
        Check.due("an empty law", x.count(11), 0);
        Check.due("none is undone by it", x.undo(), false);
        Check.due("the weddings stay", x.count(10), 2);
    }

    private static void undoIsForgottenByGoingBack() {
        Check.says("A text, going back: none are remembered.");
        BorrowedLuck x = Check.coast(PAIR);
        x.wed(0, 0);
        Check.due("no image", x.back(), false);
        Check.due("remembered", x.count(11), 1);
        x.image();
        Check.due("an image forgets none", x.count(11), 1);
        x.wed(0, 0);
        Check.due("back", x.back(), true);
        Check.due("none", x.count(11), 0);
        Check.due("none is undone", x.undo(), false);
        Check.due("the wedding of the image stays", x.count(10), 1);
    }

    private static void undoButForTheTape() {
        Check.says("all is as ahead of it (but for the TAPE, fault(), THE IMAGE)");
        BorrowedLuck x = Check.coast(PAIR);
        String was = Check.seen(x);
        x.days(3);
        x.image();
        x.seed(5);
        Check.tape(x, "day 1000");
        Check.noNumber("a wrong text", x::coast);
        x.feed(0, 0, 0, 0, 0);
        Check.due("undo", x.undo(), true);
        Check.same("seed, day, log and luck", Check.seen(x), was);
        Check.due("the tape stays", x.end(20), true);
        Check.due("and has no more", x.end(21), false);
        Check.due("fault() stays", x.fault(), 4);
        x.back();
        Check.due("the image stays", x.count(4), 3);
    }

    private static void whatIsNoAct() {
        Check.says("11 acts that can be UNDONE");
        BorrowedLuck x = Check.coast(PAIR);
        x.seed(5);
        x.image();
        x.gain(0, 0);
        x.best(0);
        x.order(0, 1, -1);
        x.lowest(0, 1);
        x.reach(0, 0, 0, 99);
        x.match(1, -1);
        x.runs(0, 60);
        x.spent(0);
        x.trial(60, true);
        x.span(60, true);
        x.whose();
        x.next();
        x.feed(1, 2, 3, 4, 5);
        x.end(0);
        Check.due("none", x.count(11), 0);
        Check.due("none is undone", x.undo(), false);
        Check.due("the seed stays", x.seed(1), 5);
    }

    private static void imageOfNothing() {
        Check.says("One goes back to THE IMAGE: true; false, and nothing happens, if none was kept.");
        BorrowedLuck x = Check.coast(PAIR, "flow 7");
        x.wed(0, 0);
        String was = Check.seen(x);
        Check.due("none", x.back(), false);
        Check.same("nothing happens", Check.seen(x), was);
        Check.due("the act is remembered", x.undo(), true);
        Check.due("none still", x.back(), false);
    }

    private static void imageOfANewCoast() {
        Check.says("THE IMAGE (one) of all may be kept, and gone back to");
        BorrowedLuck x = new BorrowedLuck();
        String was = Check.seen(x);
        x.image();
        Check.tape(x, PAIR + ";price 9;love 9;day 9");
        x.coast();
        Check.tape(x, "flow 1;stick");
        x.law();
        x.days(60);
        Check.due("back", x.back(), true);
        Check.same("a new coast", Check.seen(x), was);
        Check.due("no law", x.count(3), -1);
        Check.due("no log", x.log(0, 0), -1000);
        Check.due("back to where one is", x.back(), true);
        Check.same("a new coast still", Check.seen(x), was);
        Check.tape(x, PAIR);
        Check.due("the first text again", x.coast(), 1);
        Check.due("10 flow again", x.flows(0, 0, 0), 10);
    }

    private static void imageIsOne() {
        Check.says("THE IMAGE is kept.");
        BorrowedLuck x = Check.coast(PAIR);
        x.image();
        x.days(1);
        x.image();
        x.days(1);
        Check.due("back", x.back(), true);
        Check.due("to the later one", x.count(4), 1);
        Check.due("again", x.back(), true);
        Check.due("the later one", x.count(4), 1);
    }

    private static void imageButForTheTape() {
        Check.says("but for the TAPE, fault() and THE IMAGE itself");
        BorrowedLuck x = Check.coast(PAIR);
        Check.tape(x, "day x");
        Check.noNumber("a wrong text", x::coast);
        x.feed(0, 0, 0, 0, 0);
        x.image();
        x.end(7);
        Check.tape(x, "x");
        Check.noNumber("another one", x::coast);
        x.feed(0, 0, 0, 0, 0);
        x.end(7);
        x.back();
        Check.due("the tape of now", x.end(8), false);
        Check.due("has 7", x.end(7), true);
        Check.due("fault() of now", x.fault(), 0);
    }

    private static void imageOfTexts() {
        Check.says("THE IMAGE (one) of all may be kept, and gone back to");
        BorrowedLuck x = Check.coast(PAIR);
        x.image();
        for (int i = 2; i <= 12; i++) {
            Check.due("text " + i, x.coast(), i);
        }
        Check.fails("a 13th", UnsupportedOperationException.class, x::coast);
        x.back();
        Check.due("one text", x.count(2), 1);
        Check.due("a second", x.coast(), 2);
    }
}
