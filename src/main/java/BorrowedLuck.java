import java.util.NoSuchElementException;

/** A coast on which each bride wears a thing of another's marriage for luck. */
public final class BorrowedLuck {
    public static final int NONE = -1;

    private static final int SORTS = 4;
    private static final int MOST_WOMEN = 8;
    private static final int MOST_THINGS = 8;
    private static final int MOST_LUCK = 99;
    private static final int MOST_WEAR = 99;
    private static final int MOST_WED = 9;
    private static final int MOST_PURSE = 9999;
    private static final int MOST_DAY = 9999;
    private static final int MOST_PRICE = 50;
    private static final int MOST_LOVE = 100;
    private static final int MOST_TEXTS = 12;
    private static final int MOST_DAYS = 60;
    private static final int MOST_RUNS = 60;
    private static final int MOST_REACH = 20;
    private static final int SEEDS_OF_SPAN = 6;

    // The columns of a WOMAN and of a THING bear the numbers that woman() and thing() give them.
    private static final int PURSE = 4;
    private static final int WED = 5;
    private static final int WIDOW = 6;
    private static final int HER_COLUMNS = 7;
    private static final int OWNER = 4;
    private static final int HOLDER = 5;
    private static final int WEAR = 6;
    private static final int STUCK = 7;
    private static final int BLUE = 8;
    private static final int ITS_COLUMNS = 9;

    private static final int LOG_ROWS = 60;
    private static final int LOG_COLUMNS = 4;
    private static final int LOG_DAY = 0;
    private static final int LOG_WOMAN = 1;
    private static final int LOG_THING = 2;
    private static final int LOG_MORE = 3;
    private static final int NO_ROW = -1000;

    private static final int TAPE_MOST = 400;
    private static final int TOLD_MOST = 40;
    private static final int DIGITS_MOST = 3;
    private static final int NUMBER_MOST = 999;
    private static final int LINES_OF_COAST = 14;
    private static final int LINES_OF_LAW = 12;
    private static final int LAW_NUMBER_MOST = 60;
    private static final int DEEPEST = 6;

    private static final int FLOW_LINE = 0;
    private static final int WEAR_LINE = 1;
    private static final int STICK_LINE = 2;
    private static final int FLOW_WITHOUT_LAW = 10;

    // What THE LAW may ask of a WOMAN who wears a THING, for a SORT.
    private static final int FACT_WIDOW = 0;
    private static final int FACT_OWN = 1;
    private static final int FACT_BLUE = 2;
    private static final int FACT_WOMAN = 3;
    private static final int FACT_THING = 4;
    private static final int FACT_SORT = 5;
    private static final int FACT_WEAR = 6;
    private static final int FACT_WED = 7;
    private static final int FACT_HAS = 8;
    private static final int FACT_HOLDS = 9;
    private static final int FACTS = 10;

    // The steps of a condition: a number from 0 on stands for itself, FIRST_FACT - n for the fact n.
    private static final int FIRST_FACT = -1;
    private static final int LAST_FACT = -10;
    private static final int NOT = -11;
    private static final int AND = -12;
    private static final int OR = -13;
    private static final int PLUS = -14;
    private static final int LESS = -15;
    private static final int MORE = -16;
    // 6 deep, each level keeps two values open, and a comparison three more.
    private static final int STACK_MOST = 32;

    // A word is one number, five bits a letter, for no word has more than five letters.
    private static final int LETTERS_MOST = 5;
    private static final int WORD_WOMAN = 'w' % 32 << 20 | 'o' % 32 << 15 | 'm' % 32 << 10 | 'a' % 32 << 5 | 'n' % 32;
    private static final int WORD_PURSE = 'p' % 32 << 20 | 'u' % 32 << 15 | 'r' % 32 << 10 | 's' % 32 << 5 | 'e' % 32;
    private static final int WORD_WED = 'w' % 32 << 10 | 'e' % 32 << 5 | 'd' % 32;
    private static final int WORD_WIDOW = 'w' % 32 << 20 | 'i' % 32 << 15 | 'd' % 32 << 10 | 'o' % 32 << 5 | 'w' % 32;
    private static final int WORD_THING = 't' % 32 << 20 | 'h' % 32 << 15 | 'i' % 32 << 10 | 'n' % 32 << 5 | 'g' % 32;
    private static final int WORD_OF = 'o' % 32 << 5 | 'f' % 32;
    private static final int WORD_WORN = 'w' % 32 << 15 | 'o' % 32 << 10 | 'r' % 32 << 5 | 'n' % 32;
    private static final int WORD_WITH = 'w' % 32 << 15 | 'i' % 32 << 10 | 't' % 32 << 5 | 'h' % 32;
    private static final int WORD_BLUE = 'b' % 32 << 15 | 'l' % 32 << 10 | 'u' % 32 << 5 | 'e' % 32;
    private static final int WORD_PRICE = 'p' % 32 << 20 | 'r' % 32 << 15 | 'i' % 32 << 10 | 'c' % 32 << 5 | 'e' % 32;
    private static final int WORD_LOVE = 'l' % 32 << 15 | 'o' % 32 << 10 | 'v' % 32 << 5 | 'e' % 32;
    private static final int WORD_DAY = 'd' % 32 << 10 | 'a' % 32 << 5 | 'y' % 32;
    private static final int WORD_FLOW = 'f' % 32 << 15 | 'l' % 32 << 10 | 'o' % 32 << 5 | 'w' % 32;
    private static final int WORD_WEAR = 'w' % 32 << 15 | 'e' % 32 << 10 | 'a' % 32 << 5 | 'r' % 32;
    private static final int WORD_STICK = 's' % 32 << 20 | 't' % 32 << 15 | 'i' % 32 << 10 | 'c' % 32 << 5 | 'k' % 32;
    private static final int WORD_IF = 'i' % 32 << 5 | 'f' % 32;
    private static final int WORD_OR = 'o' % 32 << 5 | 'r' % 32;
    private static final int WORD_AND = 'a' % 32 << 10 | 'n' % 32 << 5 | 'd' % 32;
    private static final int WORD_NOT = 'n' % 32 << 10 | 'o' % 32 << 5 | 't' % 32;
    private static final int WORD_OWN = 'o' % 32 << 10 | 'w' % 32 << 5 | 'n' % 32;
    private static final int WORD_SORT = 's' % 32 << 15 | 'o' % 32 << 10 | 'r' % 32 << 5 | 't' % 32;
    private static final int WORD_HAS = 'h' % 32 << 10 | 'a' % 32 << 5 | 's' % 32;
    private static final int WORD_HOLDS = 'h' % 32 << 20 | 'o' % 32 << 15 | 'l' % 32 << 10 | 'd' % 32 << 5 | 's' % 32;

    private static final int SET_MOST = 5;
    private static final int ROWS_OF_FIVE = 120;
    private static final int NO_MATCH = -1000000;
    private static final int ACTS_MOST = 12;

    private final Tape tape = new Tape();
    private final Coast now = new Coast();
    private final Coast draft = new Coast();
    private final Coast keptCoast = new Coast();
    private final Rites rites = new Rites();
    private final Law draftLaw = new Law();
    private final Law keptLaw = new Law();
    private final CoastReader coastReader = new CoastReader(tape, draft);
    private final LawReader lawReader = new LawReader(tape, draftLaw);
    private final Search search = new Search(rites, draft);
    private final Memory memory = new Memory();
    private boolean kept;
    private int wrongByte = NONE;

    public BorrowedLuck() {
    }

    public int feed(int a, int b, int c, int d, int e) {
        if (tape.length + 20 > TAPE_MOST) {
            return NONE;
        }
        tape.put(a);
        tape.put(b);
        tape.put(c);
        tape.put(d);
        tape.put(e);
        return tape.length;
    }

    public boolean end(int n) {
        if (n < 0 || n > tape.length) {
            return false;
        }
        tape.length = n;
        return true;
    }

    public int coast() throws IllegalArgumentException, UnsupportedOperationException {
        draft.copyFrom(now);
        boolean right = coastReader.readsText();
        noteReading(right);
        if (!right) {
            throw new IllegalArgumentException("the text is wrong");
        }
        if (now.texts >= MOST_TEXTS) {
            throw new UnsupportedOperationException("there are 12 texts");
        }
        draft.texts++;
        now.copyFrom(draft);
        memory.forget();
        return now.texts;
    }

    public int law() throws IllegalArgumentException {
        draftLaw.clear();
        boolean right = lawReader.readsText();
        noteReading(right);
        if (!right) {
            throw new IllegalArgumentException("the text is wrong");
        }
        rites.rule.copyFrom(draftLaw);
        memory.forget();
        return rites.rule.lines;
    }

    private void noteReading(boolean right) {
        wrongByte = right ? NONE : tape.at;
        tape.length = 0;
    }

    public int fault() {
        return wrongByte;
    }

    public int woman(int woman, int what) throws IndexOutOfBoundsException, NoSuchElementException {
        needWoman(woman);
        if (what >= 0 && what < HER_COLUMNS) {
            return now.her(woman, what);
        }
        if (what == 7) {
            return now.thingsWith(HOLDER, woman);
        }
        if (what == 8) {
            return now.thingsWith(OWNER, woman);
        }
        if (what == 9) {
            return now.herLuck(woman);
        }
        throw new NoSuchElementException("a woman has no such number");
    }

    public int thing(int thing, int what) throws IndexOutOfBoundsException, NoSuchElementException {
        needThing(thing);
        if (what >= 0 && what < ITS_COLUMNS) {
            return now.its(thing, what);
        }
        if (what == 9) {
            return now.worth(thing);
        }
        throw new NoSuchElementException("a thing has no such number");
    }

    public int gain(int woman, int thing) throws IndexOutOfBoundsException {
        needWoman(woman);
        needThing(thing);
        return rites.gainOf(now, woman, thing);
    }

    public int flows(int woman, int thing, int sort) throws IndexOutOfBoundsException {
        needWoman(woman);
        needThing(thing);
        needSort(sort);
        return rites.rule.sum(FLOW_LINE, now, woman, thing, sort);
    }

    public int lend(int thing, int woman)
            throws IndexOutOfBoundsException, IllegalArgumentException, IllegalStateException {
        needThing(thing);
        needWoman(woman);
        int holder = now.its(thing, HOLDER);
        if (holder == woman) {
            throw new IllegalArgumentException("she holds it");
        }
        if (!mayBeLent(thing, holder, woman)) {
            throw new IllegalStateException("it may not be lent to her");
        }
        memory.remember(now);
        now.setIts(thing, HOLDER, woman);
        return holder;
    }

    private boolean mayBeLent(int thing, int holder, int woman) {
        if (holder == NONE || now.its(thing, STUCK) == 1) {
            return false;
        }
        int owner = now.its(thing, OWNER);
        return now.her(holder, WIDOW) == 0 || holder == owner || woman == owner;
    }

    public int wed(int woman, int thing) throws IndexOutOfBoundsException, IllegalStateException {
        needWoman(woman);
        needThing(thing);
        if (now.its(thing, HOLDER) != woman) {
            throw new IllegalStateException("she does not hold it");
        }
        memory.remember(now);
        int more = rites.marry(now, woman, thing);
        now.addRow(woman, thing, more);
        return more;
    }

    public int pawn(int thing) throws IndexOutOfBoundsException, IllegalStateException {
        needThing(thing);
        int owner = now.its(thing, OWNER);
        if (now.its(thing, HOLDER) != owner || now.its(thing, STUCK) == 1) {
            throw new IllegalStateException("it cannot be pawned");
        }
        memory.remember(now);
        now.setIts(thing, HOLDER, NONE);
        int purse = Math.min(MOST_PURSE, now.her(owner, PURSE) + now.price);
        now.setHer(owner, PURSE, purse);
        return purse;
    }

    public int redeem(int thing) throws IndexOutOfBoundsException, IllegalStateException {
        needThing(thing);
        int owner = now.its(thing, OWNER);
        int purse = now.her(owner, PURSE) - 2 * now.price;
        if (now.its(thing, HOLDER) != NONE || purse < 0) {
            throw new IllegalStateException("it cannot be bought back");
        }
        memory.remember(now);
        now.setIts(thing, HOLDER, owner);
        now.setHer(owner, PURSE, purse);
        return purse;
    }

    public int cut(int thing) throws IndexOutOfBoundsException, IllegalStateException {
        needThing(thing);
        if (now.its(thing, STUCK) == 0) {
            throw new IllegalStateException("it is not stuck");
        }
        memory.remember(now);
        now.setIts(thing, STUCK, 0);
        for (int s = 0; s < SORTS; s++) {
            now.setIts(thing, s, now.its(thing, s) / 2);
        }
        return now.itsLuck(thing);
    }

    public boolean widow(int woman, boolean is) throws IndexOutOfBoundsException {
        needWoman(woman);
        int then = is ? 1 : 0;
        boolean changed = now.her(woman, WIDOW) != then;
        memory.remember(now);
        now.setHer(woman, WIDOW, then);
        return changed;
    }

    public int days(int n) throws IllegalArgumentException {
        if (n < 1 || n > MOST_DAYS) {
            throw new IllegalArgumentException("they are 1 to 60");
        }
        memory.remember(now);
        return rites.passDays(now, n);
    }

    public int best(int woman) throws IndexOutOfBoundsException {
        needWoman(woman);
        int best = NONE;
        int most = 0;
        for (int t = 0; t < now.things; t++) {
            if (now.isFree(woman, t)) {
                int more = rites.gainOf(now, woman, t);
                if (best == NONE || more > most) {
                    best = t;
                    most = more;
                }
            }
        }
        return best;
    }

    public int order(int thing, int women, int k) throws IndexOutOfBoundsException, IllegalArgumentException {
        needThing(thing);
        gatherFive(women);
        int most = search.greatestOfRows(now, thing, false);
        if (k == NONE) {
            return most;
        }
        return search.bestAt(k);
    }

    public int lowest(int thing, int women) throws IndexOutOfBoundsException, IllegalArgumentException {
        needThing(thing);
        gatherFive(women);
        if (search.size == 0) {
            return NONE;
        }
        return search.greatestOfRows(now, thing, true);
    }

    public int reach(int woman, int thing, int sort, int x) throws IndexOutOfBoundsException, IllegalArgumentException {
        needWoman(woman);
        needThing(thing);
        needSort(sort);
        if (x < 1 || x > MOST_LUCK) {
            throw new IllegalArgumentException("x is 1 to 99");
        }
        draft.copyFrom(now);
        for (int n = 0; n <= MOST_REACH; n++) {
            if (draft.her(woman, sort) >= x) {
                return n;
            }
            rites.marry(draft, woman, thing);
        }
        return NONE;
    }

    public int chain(int thing) throws IndexOutOfBoundsException {
        needThing(thing);
        return now.logged(LOG_THING, thing, LOG_WOMAN);
    }

    public int since(int woman, int other) throws IndexOutOfBoundsException, IllegalArgumentException {
        needWoman(woman);
        needWoman(other);
        if (woman == other) {
            throw new IllegalArgumentException("both are one");
        }
        return now.logged(LOG_WOMAN, woman, LOG_THING) & now.logged(LOG_WOMAN, other, LOG_THING);
    }

    public int whose() throws IllegalArgumentException {
        return takeFitting();
    }

    public int next() throws IllegalArgumentException {
        int fitting = takeFitting();
        if (Integer.bitCount(fitting) < 2) {
            return NONE;
        }
        int best = 0;
        int least = MOST_WOMEN + 1;
        for (int s = 0; s < SORTS; s++) {
            int part = now.greatestPart(fitting, s);
            if (part < least) {
                least = part;
                best = s;
            }
        }
        return best;
    }

    /** The WOMEN who have what the TAPE tells, which is used up. */
    private int takeFitting() {
        boolean told = tape.tellsLuck();
        int fitting = told ? fitting() : 0;
        tape.length = 0;
        if (!told) {
            throw new IllegalArgumentException("the tape does not tell luck");
        }
        return fitting;
    }

    private int fitting() {
        int bits = 0;
        for (int w = 0; w < now.women; w++) {
            boolean fits = true;
            for (int i = 0; i + 1 < tape.length; i += 2) {
                if (now.her(w, tape.byteAt(i)) != tape.byteAt(i + 1)) {
                    fits = false;
                }
            }
            bits |= fits ? 1 << w : 0;
        }
        return bits;
    }

    public int match(int women, int k) throws IllegalArgumentException {
        gatherFive(women);
        int most = search.greatestMatch(now);
        if (k == NONE) {
            return most;
        }
        return most == NO_MATCH ? NONE : search.bestAt(k);
    }

    public int rests(int widow, int bride, int thing) throws IndexOutOfBoundsException, IllegalArgumentException {
        needWoman(widow);
        needWoman(bride);
        needThing(thing);
        if (widow == bride) {
            throw new IllegalArgumentException("both are one");
        }
        int more = rites.gainOf(now, bride, thing);
        int worth = Math.max(0, Math.floorDiv(now.worth(thing), 10));
        int rests = 0;
        for (int choices = 0; choices < 4; choices++) {
            boolean widowRests = widowHas(choices, worth) >= widowHas(choices ^ 2, worth);
            boolean brideRests = brideHas(choices, more) >= brideHas(choices ^ 1, more);
            rests |= widowRests && brideRests ? 1 << choices : 0;
        }
        return rests;
    }

    private static int widowHas(int choices, int worth) {
        switch (choices) {
            case 0: return 2;
            case 1: return 0;
            case 2: return worth;
            default: return 1;
        }
    }

    private int brideHas(int choices, int more) {
        switch (choices) {
            case 0: return more;
            case 1: return more - now.price;
            case 2: return 0;
            default: return more - 2 * now.price;
        }
    }

    public int sells(int price) throws IllegalArgumentException {
        if (price < 0 || price > MOST_PRICE) {
            throw new IllegalArgumentException("a price is 0 to 50");
        }
        return now.soldFor(price);
    }

    public int dearest() {
        int best = 0;
        for (int price = 1; price <= MOST_PRICE; price++) {
            if (now.soldFor(price) > now.soldFor(best)) {
                best = price;
            }
        }
        return best;
    }

    public int unlucky() {
        int least = NONE;
        for (int w = 0; w < now.women; w++) {
            if (least == NONE || now.herLuck(w) < now.herLuck(least)) {
                least = w;
            }
        }
        return least;
    }

    public int luckiest(int sort) throws IndexOutOfBoundsException {
        needSort(sort);
        int most = NONE;
        for (int w = 0; w < now.women; w++) {
            if (most == NONE || now.her(w, sort) > now.her(most, sort)) {
                most = w;
            }
        }
        return most;
    }

    public boolean ring(int woman) throws IndexOutOfBoundsException {
        needWoman(woman);
        int at = woman;
        for (int step = 0; step < MOST_WOMEN; step++) {
            at = now.borrowerFrom(at);
            if (at == NONE) {
                return false;
            }
            if (at == woman) {
                return true;
            }
        }
        return false;
    }

    public int runs(int thing, int n) throws IndexOutOfBoundsException, IllegalArgumentException {
        needThing(thing);
        if (n < 0 || n > MOST_RUNS) {
            throw new IllegalArgumentException("weddings are 0 to 60");
        }
        draft.copyFrom(now);
        for (int i = 0; i < n; i++) {
            rites.marryInTurn(draft, thing, i);
        }
        return draft.itsLuck(thing);
    }

    public int spent(int thing) throws IndexOutOfBoundsException {
        needThing(thing);
        draft.copyFrom(now);
        for (int n = 0; n <= MOST_RUNS; n++) {
            if (draft.its(thing, 0) == 0) {
                return n;
            }
            rites.marryInTurn(draft, thing, n);
        }
        return NONE;
    }

    public int oldest() {
        int most = NONE;
        for (int t = 0; t < now.things; t++) {
            if (most == NONE || now.its(t, WEAR) > now.its(most, WEAR)) {
                most = t;
            }
        }
        return most;
    }

    public int stuck() {
        return now.thingsWith(STUCK, 1);
    }

    public int pawned() {
        return now.thingsWith(HOLDER, NONE);
    }

    public int blue() {
        return now.thingsWith(BLUE, 1);
    }

    public int alike() {
        int pairs = 0;
        for (int t = 0; t < now.things; t++) {
            for (int other = t + 1; other < now.things; other++) {
                if (now.areAlike(t, other)) {
                    pairs++;
                }
            }
        }
        return pairs;
    }

    public int share(int woman, int sort) throws IndexOutOfBoundsException {
        needWoman(woman);
        needSort(sort);
        int all = 0;
        for (int w = 0; w < now.women; w++) {
            all += now.her(w, sort);
        }
        return all <= 0 ? 0 : 100 * now.her(woman, sort) / all;
    }

    public int odds() {
        int all = now.women * now.things;
        int had = 0;
        for (int w = 0; w < now.women; w++) {
            for (int t = 0; t < now.things; t++) {
                if (now.comesByDay(w, t)) {
                    had++;
                }
            }
        }
        return all <= 0 ? 0 : 10000 * had / all;
    }

    public int trial(int n, boolean stuck) throws IllegalArgumentException {
        needTrialDays(n);
        draft.copyFrom(now);
        rites.passDays(draft, n);
        return stuck ? draft.thingsWith(STUCK, 1) : draft.luckOfWomen();
    }

    public int span(int n, boolean most) throws IllegalArgumentException {
        needTrialDays(n);
        int edge = NONE;
        for (int from = 1; from <= SEEDS_OF_SPAN; from++) {
            draft.copyFrom(now);
            draft.randomness = from;
            rites.passDays(draft, n);
            int luck = draft.luckOfWomen();
            if (edge == NONE || (most ? luck > edge : luck < edge)) {
                edge = luck;
            }
        }
        return edge;
    }

    public int led(int woman, boolean day) throws IndexOutOfBoundsException {
        needWoman(woman);
        int rows = 0;
        int latest = NONE;
        for (int ago = 0; ago < now.rows; ago++) {
            if (now.row(ago, LOG_WOMAN) == woman) {
                rows++;
                latest = latest == NONE ? now.row(ago, LOG_DAY) : latest;
            }
        }
        return day ? latest : rows;
    }

    public int log(int ago, int what) throws NoSuchElementException {
        if (what < 0 || what >= LOG_COLUMNS) {
            throw new NoSuchElementException("a row has no such number");
        }
        return ago < 0 || ago >= now.rows ? NO_ROW : now.row(ago, what);
    }

    public int seed(int n) {
        int was = now.randomness;
        now.randomness = n;
        return was;
    }

    public boolean undo() {
        return memory.bringBack(now);
    }

    public void image() {
        keptCoast.copyFrom(now);
        keptLaw.copyFrom(rites.rule);
        kept = true;
    }

    public boolean back() {
        if (!kept) {
            return false;
        }
        now.copyFrom(keptCoast);
        rites.rule.copyFrom(keptLaw);
        memory.forget();
        return true;
    }

    public int count(int what) {
        switch (what) {
            case 0: return now.women;
            case 1: return now.things;
            case 2: return now.texts;
            case 3: return rites.rule.lines;
            case 4: return now.today;
            case 5: return now.price;
            case 6: return now.love;
            case 7: return now.luckOfWomen();
            case 8: return now.luckOfThings();
            case 9: return now.womenWith(WIDOW, 1);
            case 10: return now.rows;
            case 11: return memory.size;
            default: return NONE;
        }
    }

    private void needWoman(int woman) {
        if (woman < 0 || woman >= now.women) {
            throw new IndexOutOfBoundsException("there is no such woman");
        }
    }

    private void needThing(int thing) {
        if (thing < 0 || thing >= now.things) {
            throw new IndexOutOfBoundsException("there is no such thing");
        }
    }

    private static void needSort(int sort) {
        if (sort < 0 || sort >= SORTS) {
            throw new IndexOutOfBoundsException("there is no such sort");
        }
    }

    private static void needTrialDays(int n) {
        if (n < 0 || n > MOST_DAYS) {
            throw new IllegalArgumentException("days of a trial are 0 to 60");
        }
    }

    private void gatherFive(int women) {
        if (search.gather(women, now.women) > SET_MOST) {
            throw new IllegalArgumentException("they are more than 5");
        }
    }

    /** The TAPE, and what is read on it, one thing behind another. */
    private static final class Tape {
        private final int[] bytes = new int[TAPE_MOST];
        private int length;
        /** Where the next thing of a text begins, or the length: the first wrong byte, if that cannot stand there. */
        private int at;
        private int behind;
        /** The next thing as a word (0: it is none), as a number (NONE: it is none), and its first byte. */
        private int word;
        private int number;
        private int first;

        void put(int four) {
            for (int shift = 24; shift >= 0; shift -= 8) {
                if (length >= 0 && length < TAPE_MOST) {
                    bytes[length] = four >>> shift & 255;
                    length++;
                }
            }
        }

        int byteAt(int i) {
            return i >= 0 && i < length && i < TAPE_MOST ? bytes[i] : NONE;
        }

        void begin() {
            behind = 0;
            step();
        }

        boolean isAtEnd() {
            return at >= length;
        }

        /** Goes on to the thing behind the one that stood there. */
        void step() {
            int most = Math.min(length, TAPE_MOST);
            int i = Math.max(behind, 0);
            while (i < most && bytes[i] == ' ') {
                i++;
            }
            at = i;
            first = i < most ? bytes[i] : NONE;
            word = 0;
            while (i < most && bytes[i] >= 'a' && bytes[i] <= 'z') {
                word = i - at < LETTERS_MOST ? word << 5 | bytes[i] % 32 : NONE;
                i++;
            }
            number = NONE;
            while (word == 0 && i < most && bytes[i] >= '0' && bytes[i] <= '9') {
                number = i - at < DIGITS_MOST ? 10 * Math.max(number, 0) + bytes[i] - '0' : NONE;
                i++;
            }
            behind = i > at ? i : at + 1;
        }

        boolean takesWord(int asked) {
            if (word != asked) {
                return false;
            }
            step();
            return true;
        }

        boolean takesSign(char asked) {
            if (first != asked) {
                return false;
            }
            step();
            return true;
        }

        /** A number of 0 to most, or NONE, and then what stands there still does. */
        int takeNumber(int most) {
            int taken = number;
            if (taken == NONE || taken > most) {
                return NONE;
            }
            step();
            return taken;
        }

        boolean tellsLuck() {
            boolean tells = length <= TOLD_MOST && length % 2 == 0;
            for (int i = 0; i < length; i++) {
                int most = i % 2 == 0 ? SORTS - 1 : MOST_LUCK;
                tells = tells && byteAt(i) <= most;
            }
            return tells;
        }
    }

    /** All that acts and days change: WOMEN, THINGS, the DAY, the SEED and THE LOG. */
    private static final class Coast {
        private int women;
        private int things;
        private int texts;
        private int today;
        private int price = 5;
        private int love = 20;
        private int randomness = 1;
        private int rows;
        private int newest;
        private final int[] hers = new int[MOST_WOMEN * HER_COLUMNS];
        private final int[] itses = new int[MOST_THINGS * ITS_COLUMNS];
        private final int[] logbook = new int[LOG_ROWS * LOG_COLUMNS];

        void copyFrom(Coast other) {
            women = other.women;
            things = other.things;
            texts = other.texts;
            today = other.today;
            price = other.price;
            love = other.love;
            randomness = other.randomness;
            rows = other.rows;
            newest = other.newest;
            System.arraycopy(other.hers, 0, hers, 0, MOST_WOMEN * HER_COLUMNS);
            System.arraycopy(other.itses, 0, itses, 0, MOST_THINGS * ITS_COLUMNS);
            System.arraycopy(other.logbook, 0, logbook, 0, LOG_ROWS * LOG_COLUMNS);
        }

        int her(int w, int column) {
            boolean is = w >= 0 && w < MOST_WOMEN && column >= 0 && column < HER_COLUMNS;
            return is ? hers[w * HER_COLUMNS + column] : 0;
        }

        void setHer(int w, int column, int value) {
            if (w >= 0 && w < MOST_WOMEN && column >= 0 && column < HER_COLUMNS) {
                hers[w * HER_COLUMNS + column] = value;
            }
        }

        int its(int t, int column) {
            boolean is = t >= 0 && t < MOST_THINGS && column >= 0 && column < ITS_COLUMNS;
            return is ? itses[t * ITS_COLUMNS + column] : 0;
        }

        void setIts(int t, int column, int value) {
            if (t >= 0 && t < MOST_THINGS && column >= 0 && column < ITS_COLUMNS) {
                itses[t * ITS_COLUMNS + column] = value;
            }
        }

        int herLuck(int w) {
            return her(w, 0) + her(w, 1) + her(w, 2) + her(w, 3);
        }

        int itsLuck(int t) {
            return its(t, 0) + its(t, 1) + its(t, 2) + its(t, 3);
        }

        int worth(int t) {
            return itsLuck(t) - its(t, WEAR);
        }

        int luckOfWomen() {
            int luck = 0;
            for (int w = 0; w < women; w++) {
                luck += herLuck(w);
            }
            return luck;
        }

        int luckOfThings() {
            int luck = 0;
            for (int t = 0; t < things; t++) {
                luck += itsLuck(t);
            }
            return luck;
        }

        int womenWith(int column, int value) {
            int bits = 0;
            for (int w = 0; w < women; w++) {
                bits |= her(w, column) == value ? 1 << w : 0;
            }
            return bits;
        }

        int thingsWith(int column, int value) {
            int bits = 0;
            for (int t = 0; t < things; t++) {
                bits |= its(t, column) == value ? 1 << t : 0;
            }
            return bits;
        }

        boolean areAlike(int t, int other) {
            boolean alike = true;
            for (int s = 0; s < SORTS; s++) {
                alike = alike && its(t, s) == its(other, s);
            }
            return alike;
        }

        /** How many of a set have the same LUCK of a SORT, where they are the most. */
        int greatestPart(int set, int sort) {
            int greatest = 0;
            for (int w = 0; w < women; w++) {
                int part = 0;
                for (int other = 0; other < women; other++) {
                    boolean inSet = (set >> other & 1) == 1;
                    part += inSet && her(other, sort) == her(w, sort) ? 1 : 0;
                }
                greatest = Math.max(greatest, part);
            }
            return greatest;
        }

        /** Neither PAWNED nor STUCK with another one. */
        boolean isFree(int w, int t) {
            int holder = its(t, HOLDER);
            return holder == w || holder != NONE && its(t, STUCK) == 0;
        }

        /** Whether on a DAY on which both are drawn they have a WEDDING. */
        boolean comesByDay(int w, int t) {
            int holder = its(t, HOLDER);
            return isFree(w, t) && (holder == w || her(holder, WIDOW) == 0);
        }

        int soldFor(int asked) {
            int sum = 0;
            for (int t = 0; t < things; t++) {
                if (its(t, HOLDER) != NONE && its(t, STUCK) == 0 && worth(t) < asked) {
                    sum += asked;
                }
            }
            return sum;
        }

        /** Who HOLDS the first THING of hers that another one HOLDS. */
        int borrowerFrom(int w) {
            for (int t = 0; t < things; t++) {
                int holder = its(t, HOLDER);
                if (its(t, OWNER) == w && holder != w && holder != NONE) {
                    return holder;
                }
            }
            return NONE;
        }

        int draw() {
            randomness = 1103515245 * randomness + 12345;
            return randomness >>> 16 & 32767;
        }

        void addRow(int w, int t, int more) {
            newest = (newest + 1) % LOG_ROWS;
            rows = Math.min(LOG_ROWS, rows + 1);
            if (newest >= 0 && newest < LOG_ROWS) {
                logbook[newest * LOG_COLUMNS + LOG_DAY] = today;
                logbook[newest * LOG_COLUMNS + LOG_WOMAN] = w;
                logbook[newest * LOG_COLUMNS + LOG_THING] = t;
                logbook[newest * LOG_COLUMNS + LOG_MORE] = more;
            }
        }

        int row(int ago, int column) {
            int line = (newest - ago + LOG_ROWS) % LOG_ROWS;
            boolean is = line >= 0 && line < LOG_ROWS && column >= 0 && column < LOG_COLUMNS;
            return is ? logbook[line * LOG_COLUMNS + column] : 0;
        }

        /** What stands in one column of THE LOG, as bits, where another column has a value. */
        int logged(int column, int value, int asked) {
            int bits = 0;
            for (int ago = 0; ago < rows; ago++) {
                bits |= row(ago, column) == value ? 1 << row(ago, asked) : 0;
            }
            return bits;
        }
    }

    /** THE LAW: its LINES, the conditions of which are code for a stack. */
    private static final class Law {
        private int lines = NONE;
        private int size;
        private final int[] kinds = new int[LINES_OF_LAW];
        private final int[] numbers = new int[LINES_OF_LAW];
        private final int[] ends = new int[LINES_OF_LAW];
        private final int[] code = new int[TAPE_MOST];
        private final int[] facts = new int[FACTS];
        private final int[] stack = new int[STACK_MOST];

        void copyFrom(Law other) {
            lines = other.lines;
            size = other.size;
            System.arraycopy(other.kinds, 0, kinds, 0, LINES_OF_LAW);
            System.arraycopy(other.numbers, 0, numbers, 0, LINES_OF_LAW);
            System.arraycopy(other.ends, 0, ends, 0, LINES_OF_LAW);
            System.arraycopy(other.code, 0, code, 0, TAPE_MOST);
        }

        void clear() {
            lines = 0;
            size = 0;
        }

        void addLine(int kind, int number) {
            if (lines >= 0 && lines < LINES_OF_LAW) {
                kinds[lines] = kind;
                numbers[lines] = number;
                ends[lines] = size;
                lines++;
            }
        }

        void addStep(int step) {
            if (size >= 0 && size < TAPE_MOST && lines >= 1 && lines <= LINES_OF_LAW) {
                code[size] = step;
                size++;
                ends[lines - 1] = size;
            }
        }

        int wears(Coast c, int w, int t) {
            return 1 + sum(WEAR_LINE, c, w, t, 0);
        }

        boolean sticks(Coast c, int w, int t) {
            return sum(STICK_LINE, c, w, t, 0) > 0;
        }

        /** The sum of the numbers of all LINES of a kind that hold; a stick LINE has the number 1. */
        int sum(int kind, Coast c, int w, int t, int sort) {
            if (lines == NONE) {
                return kind == FLOW_LINE ? FLOW_WITHOUT_LAW : 0;
            }
            learn(c, w, t, sort);
            int sum = 0;
            int begin = 0;
            for (int i = 0; i < lines && i < LINES_OF_LAW; i++) {
                if (kinds[i] == kind && holds(begin, ends[i])) {
                    sum += numbers[i];
                }
                begin = ends[i];
            }
            return sum;
        }

        private void learn(Coast c, int w, int t, int sort) {
            facts[FACT_WIDOW] = c.her(w, WIDOW);
            facts[FACT_OWN] = c.its(t, OWNER) == w ? 1 : 0;
            facts[FACT_BLUE] = c.its(t, BLUE);
            facts[FACT_WOMAN] = w;
            facts[FACT_THING] = t;
            facts[FACT_SORT] = sort;
            facts[FACT_WEAR] = c.its(t, WEAR);
            facts[FACT_WED] = c.her(w, WED);
            facts[FACT_HAS] = c.her(w, sort);
            facts[FACT_HOLDS] = c.its(t, sort);
        }

        /** Whether a condition holds; a LINE without one, which has no code, always does. */
        private boolean holds(int begin, int end) {
            int height = 0;
            for (int i = begin; i < end; i++) {
                int step = i >= 0 && i < TAPE_MOST ? code[i] : 0;
                if (step >= LAST_FACT) {
                    if (height >= 0 && height < STACK_MOST) {
                        stack[height] = step >= 0 ? step : facts[FIRST_FACT - step];
                        height++;
                    }
                } else if (step == NOT) {
                    if (height >= 1 && height <= STACK_MOST) {
                        stack[height - 1] = 1 - stack[height - 1];
                    }
                } else if (height >= 2 && height <= STACK_MOST) {
                    height--;
                    stack[height - 1] = joined(step, stack[height - 1], stack[height]);
                }
            }
            return height < 1 || stack[0] != 0;
        }

        private static int joined(int step, int left, int right) {
            switch (step) {
                case AND: return left & right;
                case OR: return left | right;
                case PLUS: return left + right;
                case LESS: return left < right ? 1 : 0;
                default: return left > right ? 1 : 0;
            }
        }
    }

    /** Reads a text of LINES; told beyond the most LINES, the first word of the next one is wrong. */
    private abstract static class LineReader {
        private final int most;
        final Tape tape;

        LineReader(Tape tape, int most) {
            this.tape = tape;
            this.most = most;
        }

        abstract boolean readsLine();

        /** Whether the text is right; if it is not, the tape stands at its first wrong byte. */
        final boolean readsText() {
            tape.begin();
            if (tape.isAtEnd()) {
                return true;
            }
            for (int line = 0; line < most; line++) {
                if (!readsLine()) {
                    return false;
                }
                if (tape.isAtEnd()) {
                    return true;
                }
                if (!tape.takesSign(';')) {
                    return false;
                }
            }
            return false;
        }
    }

    /** Reads a text of THE COAST. */
    private static final class CoastReader extends LineReader {
        private final Coast told;

        CoastReader(Tape tape, Coast told) {
            super(tape, LINES_OF_COAST);
            this.told = told;
        }

        boolean readsLine() {
            if (told.women < MOST_WOMEN && tape.takesWord(WORD_WOMAN)) {
                return readsWoman(told.women);
            }
            if (told.things < MOST_THINGS && tape.takesWord(WORD_THING)) {
                return readsThing(told.things);
            }
            if (tape.takesWord(WORD_PRICE)) {
                told.price = tape.takeNumber(MOST_PRICE);
                return told.price != NONE;
            }
            if (tape.takesWord(WORD_LOVE)) {
                told.love = tape.takeNumber(MOST_LOVE);
                return told.love != NONE;
            }
            if (tape.takesWord(WORD_DAY)) {
                told.today = tape.takeNumber(NUMBER_MOST);
                return told.today != NONE;
            }
            return false;
        }

        private boolean readsWoman(int w) {
            for (int s = 0; s < SORTS; s++) {
                if (!readsHer(w, s, MOST_LUCK)) {
                    return false;
                }
            }
            if (!tape.takesWord(WORD_PURSE) || !readsHer(w, PURSE, NUMBER_MOST)) {
                return false;
            }
            told.setHer(w, WED, 0);
            if (tape.takesWord(WORD_WED) && !readsHer(w, WED, MOST_WED)) {
                return false;
            }
            told.setHer(w, WIDOW, tape.takesWord(WORD_WIDOW) ? 1 : 0);
            told.women = w + 1;
            return true;
        }

        private boolean readsThing(int t) {
            for (int s = 0; s < SORTS; s++) {
                if (!readsIts(t, s, MOST_LUCK)) {
                    return false;
                }
            }
            if (!tape.takesWord(WORD_OF) || !readsIts(t, OWNER, told.women - 1)) {
                return false;
            }
            told.setIts(t, WEAR, 0);
            if (tape.takesWord(WORD_WORN) && !readsIts(t, WEAR, MOST_WEAR)) {
                return false;
            }
            told.setIts(t, HOLDER, told.its(t, OWNER));
            if (tape.takesWord(WORD_WITH) && !readsIts(t, HOLDER, told.women - 1)) {
                return false;
            }
            told.setIts(t, STUCK, 0);
            told.setIts(t, BLUE, tape.takesWord(WORD_BLUE) ? 1 : 0);
            told.things = t + 1;
            return true;
        }

        private boolean readsHer(int w, int column, int most) {
            int number = tape.takeNumber(most);
            told.setHer(w, column, number);
            return number != NONE;
        }

        private boolean readsIts(int t, int column, int most) {
            int number = tape.takeNumber(most);
            told.setIts(t, column, number);
            return number != NONE;
        }
    }

    /** Reads a text of THE LAW. */
    private static final class LawReader extends LineReader {
        private final Law told;

        LawReader(Tape tape, Law told) {
            super(tape, LINES_OF_LAW);
            this.told = told;
        }

        boolean readsLine() {
            if (tape.takesWord(WORD_STICK)) {
                told.addLine(STICK_LINE, 1);
            } else {
                int kind = tape.takesWord(WORD_FLOW) ? FLOW_LINE : tape.takesWord(WORD_WEAR) ? WEAR_LINE : NONE;
                int number = kind == NONE ? NONE : tape.takeNumber(LAW_NUMBER_MOST);
                if (number == NONE) {
                    return false;
                }
                told.addLine(kind, number);
            }
            return !tape.takesWord(WORD_IF) || readsAny(0);
        }

        private boolean readsAny(int depth) {
            if (!readsAll(depth)) {
                return false;
            }
            for (int i = 0; i < TAPE_MOST && tape.takesWord(WORD_OR); i++) {
                if (!readsAll(depth)) {
                    return false;
                }
                told.addStep(OR);
            }
            return true;
        }

        private boolean readsAll(int depth) {
            if (!readsAtom(depth)) {
                return false;
            }
            for (int i = 0; i < TAPE_MOST && tape.takesWord(WORD_AND); i++) {
                if (!readsAtom(depth)) {
                    return false;
                }
                told.addStep(AND);
            }
            return true;
        }

        private boolean readsAtom(int depth) {
            if (depth < DEEPEST && tape.takesWord(WORD_NOT)) {
                if (!readsAtom(depth + 1)) {
                    return false;
                }
                told.addStep(NOT);
                return true;
            }
            if (depth < DEEPEST && tape.takesSign('(')) {
                return readsAny(depth + 1) && tape.takesSign(')');
            }
            int trait = traitOf(tape.word);
            if (trait != NONE) {
                told.addStep(FIRST_FACT - trait);
                tape.step();
                return true;
            }
            if (!readsSum()) {
                return false;
            }
            int step = tape.takesSign('<') ? LESS : tape.takesSign('>') ? MORE : NONE;
            if (step == NONE || !readsSum()) {
                return false;
            }
            told.addStep(step);
            return true;
        }

        private boolean readsSum() {
            for (int i = 0; i < TAPE_MOST; i++) {
                int part = partOf(tape.word);
                if (part == NONE && tape.number == NONE) {
                    return false;
                }
                told.addStep(part == NONE ? tape.number : FIRST_FACT - part);
                if (i > 0) {
                    told.addStep(PLUS);
                }
                tape.step();
                if (tape.first != '+') {
                    return true;
                }
                tape.step();
            }
            return false;
        }

        private static int traitOf(int word) {
            switch (word) {
                case WORD_WIDOW: return FACT_WIDOW;
                case WORD_OWN: return FACT_OWN;
                case WORD_BLUE: return FACT_BLUE;
                default: return NONE;
            }
        }

        private static int partOf(int word) {
            switch (word) {
                case WORD_WOMAN: return FACT_WOMAN;
                case WORD_THING: return FACT_THING;
                case WORD_SORT: return FACT_SORT;
                case WORD_WEAR: return FACT_WEAR;
                case WORD_WED: return FACT_WED;
                case WORD_HAS: return FACT_HAS;
                case WORD_HOLDS: return FACT_HOLDS;
                default: return NONE;
            }
        }
    }

    /** How WEDDINGS and DAYS go by THE LAW. */
    private static final class Rites {
        private final Law rule = new Law();

        /** How much LUCK of a SORT would come to her from it; below 0, what would go from her to it. */
        private int comes(Coast c, int w, int t, int sort) {
            int difference = c.its(t, sort) - c.her(w, sort);
            int goes = Math.min(rule.sum(FLOW_LINE, c, w, t, sort), Math.abs(difference) / 2);
            return difference < 0 ? -goes : goes;
        }

        int gainOf(Coast c, int w, int t) {
            int more = 0;
            for (int s = 0; s < SORTS; s++) {
                more += comes(c, w, t, s);
            }
            return more;
        }

        /** A WEDDING, wherever the THING is: how much LUCK she has more by it. */
        int marry(Coast c, int w, int t) {
            boolean sticks = rule.sticks(c, w, t);
            int more = 0;
            // What comes of a SORT is asked when others have come already: THE LAW looks at that SORT's LUCK alone.
            for (int s = 0; s < SORTS; s++) {
                int comes = comes(c, w, t, s);
                c.setHer(w, s, c.her(w, s) + comes);
                c.setIts(t, s, c.its(t, s) - comes);
                more += comes;
            }
            // The document takes STICKS alone as it was ahead of the mixing; WEARS is asked behind it.
            c.setIts(t, WEAR, Math.min(MOST_WEAR, c.its(t, WEAR) + rule.wears(c, w, t)));
            if (sticks) {
                c.setIts(t, STUCK, 1);
            }
            c.setHer(w, WED, Math.min(MOST_WED, c.her(w, WED) + 1));
            return more;
        }

        /** The WEDDING of the number i, if WOMEN come round and round. */
        void marryInTurn(Coast c, int t, int i) {
            if (c.women > 0) {
                marry(c, i % c.women, t);
            }
        }

        /** So many DAYS: how many WEDDINGS were had. */
        int passDays(Coast c, int n) {
            int weddings = 0;
            for (int i = 0; i < n; i++) {
                if (c.women > 0 && c.things > 0) {
                    int w = c.draw() % c.women;
                    int t = c.draw() % c.things;
                    if (c.comesByDay(w, t)) {
                        c.setIts(t, HOLDER, w);
                        c.addRow(w, t, marry(c, w, t));
                        weddings++;
                    }
                    if (c.draw() % 100 < c.love) {
                        c.setHer(w, 0, Math.min(MOST_LUCK, c.her(w, 0) + 1));
                    }
                }
                c.today = Math.min(MOST_DAY, c.today + 1);
            }
            return weddings;
        }
    }

    /** Looks through rows of a set of WOMEN, and through ways to give them THINGS. */
    private static final class Search {
        private final Rites rites;
        private final Coast tried;
        private int size;
        private int greatest;
        private final int[] set = new int[MOST_WOMEN];
        private final int[] way = new int[MOST_WOMEN];
        private final int[] bestWay = new int[MOST_WOMEN];
        private final int[] gains = new int[MOST_WOMEN * MOST_THINGS];

        Search(Rites rites, Coast tried) {
            this.rites = rites;
            this.tried = tried;
        }

        /** Takes the set from bits; bits of no WOMAN count for nothing. How many they are. */
        int gather(int bits, int women) {
            size = 0;
            for (int w = 0; w < women && w < MOST_WOMEN; w++) {
                if ((bits >> w & 1) == 1 && size >= 0 && size < MOST_WOMEN) {
                    set[size] = w;
                    size++;
                }
            }
            return size;
        }

        int bestAt(int k) {
            return k >= 0 && k < size && k < MOST_WOMEN ? bestWay[k] : NONE;
        }

        /** The greatest, over all rows of the set, of the least LUCK behind it, or else of what they have more. */
        int greatestOfRows(Coast from, int t, boolean least) {
            System.arraycopy(set, 0, way, 0, MOST_WOMEN);
            boolean more = true;
            for (int i = 0; i < ROWS_OF_FIVE && more; i++) {
                tried.copyFrom(from);
                int had = 0;
                for (int k = 0; k < size && k < MOST_WOMEN; k++) {
                    had += rites.marry(tried, way[k], t);
                }
                int value = least ? leastLuck() : had;
                if (i == 0 || value > greatest) {
                    greatest = value;
                    System.arraycopy(way, 0, bestWay, 0, MOST_WOMEN);
                }
                more = goesToNextRow();
            }
            return greatest;
        }

        private int leastLuck() {
            int least = 0;
            for (int i = 0; i < size && i < MOST_WOMEN; i++) {
                int luck = tried.herLuck(set[i]);
                least = i == 0 ? luck : Math.min(least, luck);
            }
            return least;
        }

        /** The next row in the order of rows, by the first unlike one; false behind the last. */
        private boolean goesToNextRow() {
            int last = Math.min(size, MOST_WOMEN) - 1;
            int turn = last - 1;
            while (turn >= 0 && way[turn] > way[turn + 1]) {
                turn--;
            }
            if (turn < 0) {
                return false;
            }
            int other = last;
            while (other > turn + 1 && way[other] < way[turn]) {
                other--;
            }
            swap(turn, other);
            int left = turn + 1;
            int right = last;
            while (left < right) {
                swap(left, right);
                left++;
                right--;
            }
            return true;
        }

        private void swap(int i, int j) {
            if (i >= 0 && i < MOST_WOMEN && j >= 0 && j < MOST_WOMEN) {
                int kept = way[i];
                way[i] = way[j];
                way[j] = kept;
            }
        }

        int greatestMatch(Coast c) {
            for (int i = 0; i < size && i < MOST_WOMEN; i++) {
                for (int t = 0; t < c.things && t < MOST_THINGS; t++) {
                    boolean free = c.isFree(set[i], t);
                    gains[i * MOST_THINGS + t] = free ? rites.gainOf(c, set[i], t) : NO_MATCH;
                }
            }
            greatest = NO_MATCH;
            place(0, 0, 0, c.things);
            return greatest;
        }

        /** Gives the WOMAN of a place in the set each THING that is not used yet, the least first. */
        private void place(int i, int used, int sum, int things) {
            if (i < 0 || i >= size || i >= SET_MOST) {
                if (sum > greatest) {
                    greatest = sum;
                    System.arraycopy(way, 0, bestWay, 0, MOST_WOMEN);
                }
                return;
            }
            for (int t = 0; t < things && t < MOST_THINGS; t++) {
                int more = gains[i * MOST_THINGS + t];
                if ((used >> t & 1) == 0 && more != NO_MATCH) {
                    way[i] = t;
                    place(i + 1, used | 1 << t, sum + more, things);
                }
            }
        }
    }

    /** The latest ACTS not undone yet, each as all was ahead of it. */
    private static final class Memory {
        private final Coast[] ahead = new Coast[ACTS_MOST];
        private int size;
        private int newest;

        Memory() {
            for (int i = 0; i < ACTS_MOST; i++) {
                ahead[i] = new Coast();
            }
        }

        void remember(Coast c) {
            newest = (newest + 1) % ACTS_MOST;
            Coast latest = newest >= 0 && newest < ACTS_MOST ? ahead[newest] : null;
            if (latest != null) {
                latest.copyFrom(c);
                size = Math.min(ACTS_MOST, size + 1);
            }
        }

        boolean bringBack(Coast c) {
            Coast latest = newest >= 0 && newest < ACTS_MOST ? ahead[newest] : null;
            if (size <= 0 || latest == null) {
                return false;
            }
            c.copyFrom(latest);
            newest = (newest + ACTS_MOST - 1) % ACTS_MOST;
            size--;
            return true;
        }

        void forget() {
            size = 0;
        }
    }
}
