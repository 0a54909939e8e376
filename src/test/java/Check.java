import java.util.NoSuchElementException;

/** What all tests of the project use: telling texts, and counting answers that are not due. */
final class Check {
    /** Three WOMEN, the last a WIDOW, and three THINGS, of which the WOMAN 0 HOLDS two. */
    static final String THREE = "woman 10 20 30 40 purse 50;woman 50 0 5 9 purse 3 wed 2;woman 0 0 0 0 purse 20 widow;"
            + "thing 40 40 0 0 of 0;thing 10 90 10 1 of 1 worn 5 with 0;thing 0 0 0 0 of 2 blue;price 6";

    private static int wrong = 0;
    private static int checked = 0;
    private static String sentence = "";

    private Check() {
    }

    interface Call {
        void run();
    }

    /** The words of the document that the checks from here on hold to. */
    static void says(String words) {
        sentence = words;
    }

    private static void tell(String what) {
        wrong++;
        System.out.println((sentence.isEmpty() ? "" : "\"" + sentence + "\": ") + plain(what));
    }

    /** Signs that a page cannot show are told by their numbers. */
    private static String plain(String what) {
        StringBuilder told = new StringBuilder();
        for (char sign : what.toCharArray()) {
            told.append(sign >= 32 && sign < 127 ? String.valueOf(sign) : "{" + (int) sign + "}");
        }
        return told.toString();
    }

    static void due(String what, long got, long want) {
        checked++;
        if (got != want) {
            tell(what + " answered " + got + ", due is " + want);
        }
    }

    static void due(String what, boolean got, boolean want) {
        due(what, got ? 1 : 0, want ? 1 : 0);
    }

    static void fails(String what, Class<? extends RuntimeException> want, Call call) {
        checked++;
        String got = "nothing";
        try {
            call.run();
        } catch (RuntimeException e) {
            got = e.getClass().getName();
        }
        if (!got.equals(want.getName())) {
            tell(what + " throws " + got + ", due is " + want.getName());
        }
    }

    static void noSuch(String what, Call call) {
        fails(what, IndexOutOfBoundsException.class, call);
    }

    static void noNumber(String what, Call call) {
        fails(what, IllegalArgumentException.class, call);
    }

    static void cannotBe(String what, Call call) {
        fails(what, IllegalStateException.class, call);
    }

    static void noElement(String what, Call call) {
        fails(what, NoSuchElementException.class, call);
    }

    /** A call that throws, leaves all as it was, and leaves a TAPE that it does not read alone. */
    static void refused(BorrowedLuck x, String what, Class<? extends RuntimeException> want, Call call) {
        String was = seen(x);
        int fault = x.fault();
        tape(x, "price 50");
        fails(what, want, call);
        due(what + ": the tape has no more", x.end(9), false);
        due(what + ": the tape has no less", x.end(8), true);
        x.end(0);
        due(what + ": fault() behind it", x.fault(), fault);
        same(what + ": behind it all", seen(x), was);
    }

    /** Puts signs 0 to 255 on the TAPE, in place of what is there. */
    static void tape(BorrowedLuck x, String text) {
        x.end(0);
        int[] five = new int[5];
        for (int from = 0; from < text.length(); from += 20) {
            for (int i = 0; i < 20; i++) {
                int sign = from + i < text.length() ? text.charAt(from + i) : 0;
                five[i / 4] = five[i / 4] << 8 | sign;
            }
            x.feed(five[0], five[1], five[2], five[3], five[4]);
        }
        if (!x.end(text.length())) {
            throw new AssertionError("the text is too long for a test: " + text);
        }
    }

    static BorrowedLuck coast(String text) {
        BorrowedLuck x = new BorrowedLuck();
        tape(x, text);
        x.coast();
        return x;
    }

    static BorrowedLuck coast(String text, String law) {
        BorrowedLuck x = coast(text);
        tape(x, law);
        x.law();
        return x;
    }

    /** All that can be seen of an object without changing it, but for fault(). */
    static String seen(BorrowedLuck x) {
        StringBuilder all = new StringBuilder();
        for (int what = 0; what <= 11; what++) {
            all.append(x.count(what)).append(' ');
        }
        for (int w = 0; w < x.count(0); w++) {
            for (int what = 0; what <= 9; what++) {
                all.append(x.woman(w, what)).append(' ');
            }
        }
        for (int t = 0; t < x.count(1); t++) {
            for (int what = 0; what <= 9; what++) {
                all.append(x.thing(t, what)).append(' ');
            }
        }
        for (int ago = 0; ago < x.count(10); ago++) {
            for (int what = 0; what <= 3; what++) {
                all.append(x.log(ago, what)).append(' ');
            }
        }
        int things = x.count(1);
        for (int i = 0; i < x.count(0) * things * 4; i++) {
            all.append(x.flows(i / 4 / things, i / 4 % things, i % 4)).append(' ');
        }
        int seed = x.seed(1);
        x.seed(seed);
        return all.append(seed).toString();
    }

    static void same(String what, String got, String want) {
        checked++;
        if (!got.equals(want)) {
            tell(what + " shows " + got + ", due is " + want);
        }
    }

    static void end() {
        System.out.println(checked + " answers, " + wrong + " not as due");
        if (wrong != 0) {
            System.exit(1);
        }
    }
}
