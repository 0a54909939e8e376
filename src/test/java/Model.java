import java.util.ArrayList;
import java.util.HashSet;
import java.util.List;
import java.util.NoSuchElementException;
import java.util.Set;
import java.util.function.IntPredicate;

/** The document written a second time, as plainly as it goes: lists, copies and all rows tried. */
final class Model {
    static final class Woman {
        int[] luck = new int[4];
        int purse;
        int wed;
        boolean widow;

        Woman copy() {
            Woman c = new Woman();
            c.luck = luck.clone();
            c.purse = purse;
            c.wed = wed;
            c.widow = widow;
            return c;
        }
    }

    static final class Thing {
        int[] luck = new int[4];
        int owner;
        int holder;
        int wear;
        boolean stuck;
        boolean blue;

        Thing copy() {
            Thing c = new Thing();
            c.luck = luck.clone();
            c.owner = owner;
            c.holder = holder;
            c.wear = wear;
            c.stuck = stuck;
            c.blue = blue;
            return c;
        }

        boolean pawned() {
            return holder == -1;
        }
    }

    static final class World {
        List<Woman> women = new ArrayList<>();
        List<Thing> things = new ArrayList<>();
        List<int[]> log = new ArrayList<>();
        List<ModelText.Line> law;
        int texts;
        int day;
        int price = 5;
        int love = 20;
        int seed = 1;

        World copy() {
            World c = new World();
            women.forEach(w -> c.women.add(w.copy()));
            things.forEach(t -> c.things.add(t.copy()));
            c.log.addAll(log);
            c.law = law;
            c.texts = texts;
            c.day = day;
            c.price = price;
            c.love = love;
            c.seed = seed;
            return c;
        }

        int draw() {
            seed = 1103515245 * seed + 12345;
            return (seed >> 16) & 0x7fff;
        }

        int luckOfWomen() {
            return women.stream().mapToInt(w -> sum(w.luck)).sum();
        }
    }

    World now = new World();
    private World image;
    private final List<World> acts = new ArrayList<>();
    private final List<Integer> tape = new ArrayList<>();
    private int fault = -1;

    private static int sum(int[] luck) {
        return luck[0] + luck[1] + luck[2] + luck[3];
    }

    private static int bits(int n, IntPredicate in) {
        int bits = 0;
        for (int i = 0; i < n; i++) {
            if (in.test(i)) {
                bits |= 1 << i;
            }
        }
        return bits;
    }

    private int things(IntPredicate in) {
        return bits(now.things.size(), in);
    }

    private void remember() {
        acts.add(now.copy());
        if (acts.size() > 12) {
            acts.remove(0);
        }
    }

    private void number(boolean right) {
        if (!right) {
            throw new IllegalArgumentException();
        }
    }

    private void such(boolean right) {
        if (!right) {
            throw new IndexOutOfBoundsException();
        }
    }

    private void canBe(boolean right) {
        if (!right) {
            throw new IllegalStateException();
        }
    }

    private Woman theWoman(int w) {
        such(w >= 0 && w < now.women.size());
        return now.women.get(w);
    }

    private Thing theThing(int t) {
        such(t >= 0 && t < now.things.size());
        return now.things.get(t);
    }

    // Weddings

    private static int lines(World x, String kind, int w, int t, int sort) {
        int sum = 0;
        for (ModelText.Line line : x.law == null ? List.<ModelText.Line>of() : x.law) {
            if (line.kind.equals(kind) && (line.when == null || line.when.holds(x, w, t, sort))) {
                sum += line.number;
            }
        }
        return sum;
    }

    private static int flow(World x, int w, int t, int sort) {
        return x.law == null ? 10 : lines(x, "flow", w, t, sort);
    }

    private static int marry(World x, int w, int t) {
        Woman her = x.women.get(w);
        Thing it = x.things.get(t);
        int[] flow = new int[4];
        for (int s = 0; s < 4; s++) {
            flow[s] = flow(x, w, t, s);
        }
        boolean sticks = lines(x, "stick", w, t, 0) > 0;
        int ahead = sum(her.luck);
        for (int s = 0; s < 4; s++) {
            int goes = Math.min(flow[s], Math.abs(her.luck[s] - it.luck[s]) / 2);
            int way = her.luck[s] > it.luck[s] ? -goes : goes;
            her.luck[s] += way;
            it.luck[s] -= way;
        }
        it.wear = Math.min(99, it.wear + 1 + lines(x, "wear", w, t, 0));
        it.stuck |= sticks;
        her.wed = Math.min(9, her.wed + 1);
        return sum(her.luck) - ahead;
    }

    private static int marryLogged(World x, int w, int t) {
        int more = marry(x, w, t);
        x.log.add(new int[] {x.day, w, t, more});
        if (x.log.size() > 60) {
            x.log.remove(0);
        }
        return more;
    }

    private static boolean goesByDay(World x, int w, Thing it) {
        return !it.pawned() && (it.holder == w || !it.stuck && !x.women.get(it.holder).widow);
    }

    private static int pass(World x, int days) {
        int weddings = 0;
        for (int i = 0; i < days; i++) {
            if (!x.women.isEmpty() && !x.things.isEmpty()) {
                int w = x.draw() % x.women.size();
                int t = x.draw() % x.things.size();
                if (goesByDay(x, w, x.things.get(t))) {
                    x.things.get(t).holder = w;
                    marryLogged(x, w, t);
                    weddings++;
                }
                if (x.draw() % 100 < x.love) {
                    int[] luck = x.women.get(w).luck;
                    luck[0] = Math.min(99, luck[0] + 1);
                }
            }
            x.day = Math.min(9999, x.day + 1);
        }
        return weddings;
    }

    // The face

    int feed(int a, int b, int c, int d, int e) {
        if (tape.size() > 380) {
            return -1;
        }
        for (int number : new int[] {a, b, c, d, e}) {
            for (int shift = 24; shift >= 0; shift -= 8) {
                tape.add(number >> shift & 255);
            }
        }
        return tape.size();
    }

    boolean end(int n) {
        if (n < 0 || n > tape.size()) {
            return false;
        }
        tape.subList(n, tape.size()).clear();
        return true;
    }

    int coast() {
        World told = now.copy();
        fault = ModelText.readCoast(tape, told);
        tape.clear();
        number(fault == -1);
        if (now.texts == 12) {
            throw new UnsupportedOperationException();
        }
        now = told;
        acts.clear();
        return ++now.texts;
    }

    int law() {
        List<ModelText.Line> told = new ArrayList<>();
        fault = ModelText.readLaw(tape, told);
        tape.clear();
        number(fault == -1);
        now.law = told;
        acts.clear();
        return told.size();
    }

    int fault() {
        return fault;
    }

    int woman(int w, int what) {
        Woman her = theWoman(w);
        switch (what) {
            case 0: case 1: case 2: case 3: return her.luck[what];
            case 4: return her.purse;
            case 5: return her.wed;
            case 6: return her.widow ? 1 : 0;
            case 7: return things(t -> now.things.get(t).holder == w);
            case 8: return things(t -> now.things.get(t).owner == w);
            case 9: return sum(her.luck);
            default: throw new NoSuchElementException();
        }
    }

    int thing(int t, int what) {
        Thing it = theThing(t);
        switch (what) {
            case 0: case 1: case 2: case 3: return it.luck[what];
            case 4: return it.owner;
            case 5: return it.holder;
            case 6: return it.wear;
            case 7: return it.stuck ? 1 : 0;
            case 8: return it.blue ? 1 : 0;
            case 9: return worth(it);
            default: throw new NoSuchElementException();
        }
    }

    private static int worth(Thing it) {
        return sum(it.luck) - it.wear;
    }

    int gain(int w, int t) {
        theWoman(w);
        theThing(t);
        return marry(now.copy(), w, t);
    }

    int flows(int w, int t, int sort) {
        theWoman(w);
        theThing(t);
        such(sort >= 0 && sort < 4);
        return flow(now, w, t, sort);
    }

    int lend(int t, int w) {
        Thing it = theThing(t);
        theWoman(w);
        number(it.holder != w);
        canBe(!it.pawned() && !it.stuck);
        canBe(!(now.women.get(it.holder).widow && it.holder != it.owner && w != it.owner));
        remember();
        int held = it.holder;
        it.holder = w;
        return held;
    }

    int wed(int w, int t) {
        theWoman(w);
        canBe(theThing(t).holder == w);
        remember();
        return marryLogged(now, w, t);
    }

    int pawn(int t) {
        Thing it = theThing(t);
        canBe(it.holder == it.owner && !it.stuck);
        remember();
        it.holder = -1;
        Woman owner = theWoman(it.owner);
        owner.purse = Math.min(9999, owner.purse + now.price);
        return owner.purse;
    }

    int redeem(int t) {
        Thing it = theThing(t);
        Woman owner = theWoman(it.owner);
        canBe(it.pawned() && owner.purse >= 2 * now.price);
        remember();
        it.holder = it.owner;
        owner.purse -= 2 * now.price;
        return owner.purse;
    }

    int cut(int t) {
        Thing it = theThing(t);
        canBe(it.stuck);
        remember();
        it.stuck = false;
        for (int s = 0; s < 4; s++) {
            it.luck[s] /= 2;
        }
        return sum(it.luck);
    }

    boolean widow(int w, boolean is) {
        Woman her = theWoman(w);
        remember();
        boolean was = her.widow;
        her.widow = is;
        return was != is;
    }

    int days(int n) {
        number(n >= 1 && n <= 60);
        remember();
        return pass(now, n);
    }

    private boolean free(int w, Thing it) {
        return !it.pawned() && !(it.stuck && it.holder != w);
    }

    int best(int w) {
        theWoman(w);
        int best = -1;
        for (int t = 0; t < now.things.size(); t++) {
            if (free(w, theThing(t)) && (best == -1 || gain(w, t) > gain(w, best))) {
                best = t;
            }
        }
        return best;
    }

    private List<Integer> set(int women) {
        List<Integer> set = new ArrayList<>();
        for (int w = 0; w < now.women.size(); w++) {
            if ((women & 1 << w) != 0) {
                set.add(w);
            }
        }
        number(set.size() <= 5);
        return set;
    }

    /** All ways to take some of a list in a row, by the first unlike one. */
    private static void rows(List<Integer> left, int length, List<Integer> row, List<List<Integer>> all) {
        if (row.size() == length) {
            all.add(new ArrayList<>(row));
            return;
        }
        for (Integer one : left) {
            if (!row.contains(one)) {
                row.add(one);
                rows(left, length, row, all);
                row.remove(row.size() - 1);
            }
        }
    }

    private static List<List<Integer>> rows(List<Integer> of, int length) {
        List<List<Integer>> all = new ArrayList<>();
        rows(of, length, new ArrayList<>(), all);
        return all;
    }

    int order(int t, int women, int k) {
        theThing(t);
        List<Integer> set = set(women);
        int most = Integer.MIN_VALUE;
        List<Integer> best = List.of();
        for (List<Integer> row : rows(set, set.size())) {
            World x = now.copy();
            int more = row.stream().mapToInt(w -> marry(x, w, t)).sum();
            if (more > most) {
                most = more;
                best = row;
            }
        }
        return k == -1 ? most : k >= 0 && k < best.size() ? best.get(k) : -1;
    }

    int lowest(int t, int women) {
        theThing(t);
        List<Integer> set = set(women);
        int most = -1;
        for (List<Integer> row : rows(set, set.size())) {
            World x = now.copy();
            row.forEach(w -> marry(x, w, t));
            most = Math.max(most, row.stream().mapToInt(w -> sum(x.women.get(w).luck)).min().orElse(-1));
        }
        return most;
    }

    int reach(int w, int t, int sort, int x) {
        theWoman(w);
        theThing(t);
        such(sort >= 0 && sort < 4);
        number(x >= 1 && x <= 99);
        World tried = now.copy();
        for (int n = 0; n <= 20; n++) {
            if (tried.women.get(w).luck[sort] >= x) {
                return n;
            }
            marry(tried, w, t);
        }
        return -1;
    }

    int chain(int t) {
        theThing(t);
        return bits(8, w -> now.log.stream().anyMatch(row -> row[1] == w && row[2] == t));
    }

    int since(int w, int other) {
        theWoman(w);
        theWoman(other);
        number(w != other);
        return things(t -> (chain(t) & 1 << w) != 0 && (chain(t) & 1 << other) != 0);
    }

    int whose() {
        List<Integer> told = new ArrayList<>(tape);
        tape.clear();
        number(told.size() <= 40 && told.size() % 2 == 0);
        for (int i = 0; i < told.size(); i += 2) {
            number(told.get(i) < 4 && told.get(i + 1) < 100);
        }
        return bits(now.women.size(), w -> {
            boolean fits = true;
            for (int i = 0; i < told.size(); i += 2) {
                fits &= now.women.get(w).luck[told.get(i)] == told.get(i + 1);
            }
            return fits;
        });
    }

    int next() {
        int fit = whose();
        int best = -1;
        int least = Integer.MAX_VALUE;
        for (int s = 0; s < 4 && Integer.bitCount(fit) > 1; s++) {
            int sort = s;
            int part = 0;
            for (int luck = 0; luck < 100; luck++) {
                int asked = luck;
                int have = bits(now.women.size(), w -> now.women.get(w).luck[sort] == asked);
                part = Math.max(part, Integer.bitCount(fit & have));
            }
            if (part < least) {
                least = part;
                best = s;
            }
        }
        return best;
    }

    int match(int women, int k) {
        List<Integer> set = set(women);
        List<Integer> all = new ArrayList<>();
        for (int t = 0; t < now.things.size(); t++) {
            all.add(t);
        }
        int most = -1000000;
        List<Integer> best = List.of();
        int[][] gains = new int[set.size()][all.size()];
        for (int i = 0; i < set.size(); i++) {
            for (int t : all) {
                gains[i][t] = gain(set.get(i), t);
            }
        }
        for (List<Integer> way : rows(all, set.size())) {
            int sum = 0;
            boolean can = true;
            for (int i = 0; i < set.size(); i++) {
                sum += gains[i][way.get(i)];
                can &= free(set.get(i), now.things.get(way.get(i)));
            }
            if (can && sum > most) {
                most = sum;
                best = way;
            }
        }
        return k == -1 ? most : k >= 0 && k < best.size() ? best.get(k) : -1;
    }

    int rests(int widow, int bride, int t) {
        theWoman(widow);
        theWoman(bride);
        theThing(t);
        number(widow != bride);
        int gain = gain(bride, t);
        int[] hers = {gain, gain - now.price, 0, gain - 2 * now.price};
        int[] widows = {2, 0, Math.max(0, worth(theThing(t))) / 10, 1};
        return bits(4, c -> hers[c] >= hers[c ^ 1] && widows[c] >= widows[c ^ 2]);
    }

    int sells(int price) {
        number(price >= 0 && price <= 50);
        return price * Integer.bitCount(things(t -> {
            Thing it = now.things.get(t);
            return !it.pawned() && !it.stuck && worth(it) < price;
        }));
    }

    int dearest() {
        int best = 0;
        for (int price = 50; price >= 0; price--) {
            best = sells(price) >= sells(best) ? price : best;
        }
        return best;
    }

    int unlucky() {
        int best = -1;
        for (int w = now.women.size() - 1; w >= 0; w--) {
            best = best == -1 || woman(w, 9) <= woman(best, 9) ? w : best;
        }
        return best;
    }

    int luckiest(int sort) {
        such(sort >= 0 && sort < 4);
        int best = -1;
        for (int w = now.women.size() - 1; w >= 0; w--) {
            best = best == -1 || woman(w, sort) >= woman(best, sort) ? w : best;
        }
        return best;
    }

    boolean ring(int w) {
        theWoman(w);
        Set<Integer> seen = new HashSet<>();
        int at = w;
        while (seen.add(at)) {
            int from = at;
            at = now.things.stream().filter(it -> it.owner == from && it.holder != from && !it.pawned())
                    .mapToInt(it -> it.holder).findFirst().orElse(-1);
            if (at == -1) {
                return false;
            }
        }
        return at == w;
    }

    int runs(int t, int n) {
        theThing(t);
        number(n >= 0 && n <= 60);
        World x = now.copy();
        for (int i = 0; i < n; i++) {
            marry(x, i % x.women.size(), t);
        }
        return sum(x.things.get(t).luck);
    }

    int spent(int t) {
        theThing(t);
        World x = now.copy();
        for (int n = 0; n <= 60; n++) {
            if (x.things.get(t).luck[0] == 0) {
                return n;
            }
            marry(x, n % x.women.size(), t);
        }
        return -1;
    }

    int oldest() {
        int best = -1;
        for (int t = now.things.size() - 1; t >= 0; t--) {
            best = best == -1 || thing(t, 6) >= thing(best, 6) ? t : best;
        }
        return best;
    }

    int stuck() {
        return things(t -> now.things.get(t).stuck);
    }

    int pawned() {
        return things(t -> now.things.get(t).pawned());
    }

    int blue() {
        return things(t -> now.things.get(t).blue);
    }

    int alike() {
        int pairs = 0;
        for (Thing a : now.things) {
            for (Thing b : now.things) {
                pairs += a != b && java.util.Arrays.equals(a.luck, b.luck) ? 1 : 0;
            }
        }
        return pairs / 2;
    }

    int share(int w, int sort) {
        Woman her = theWoman(w);
        such(sort >= 0 && sort < 4);
        int all = now.women.stream().mapToInt(one -> one.luck[sort]).sum();
        return all == 0 ? 0 : her.luck[sort] * 100 / all;
    }

    int odds() {
        int had = 0;
        for (int w = 0; w < now.women.size(); w++) {
            for (Thing it : now.things) {
                had += goesByDay(now, w, it) ? 1 : 0;
            }
        }
        int all = now.women.size() * now.things.size();
        return all == 0 ? 0 : had * 10000 / all;
    }

    int trial(int n, boolean stuck) {
        number(n >= 0 && n <= 60);
        World x = now.copy();
        pass(x, n);
        return stuck ? bits(x.things.size(), t -> x.things.get(t).stuck) : x.luckOfWomen();
    }

    int span(int n, boolean most) {
        number(n >= 0 && n <= 60);
        List<Integer> all = new ArrayList<>();
        for (int seed = 1; seed <= 6; seed++) {
            World x = now.copy();
            x.seed = seed;
            pass(x, n);
            all.add(x.luckOfWomen());
        }
        return most ? java.util.Collections.max(all) : java.util.Collections.min(all);
    }

    int led(int w, boolean day) {
        theWoman(w);
        int rows = 0;
        int latest = -1;
        for (int[] row : now.log) {
            if (row[1] == w) {
                rows++;
                latest = row[0];
            }
        }
        return day ? latest : rows;
    }

    int log(int ago, int what) {
        if (what < 0 || what > 3) {
            throw new NoSuchElementException();
        }
        return ago < 0 || ago >= now.log.size() ? -1000 : now.log.get(now.log.size() - 1 - ago)[what];
    }

    int seed(int n) {
        int was = now.seed;
        now.seed = n;
        return was;
    }

    boolean undo() {
        if (acts.isEmpty()) {
            return false;
        }
        now = acts.remove(acts.size() - 1);
        return true;
    }

    void image() {
        image = now.copy();
    }

    boolean back() {
        if (image == null) {
            return false;
        }
        now = image.copy();
        acts.clear();
        return true;
    }

    int count(int what) {
        switch (what) {
            case 0: return now.women.size();
            case 1: return now.things.size();
            case 2: return now.texts;
            case 3: return now.law == null ? -1 : now.law.size();
            case 4: return now.day;
            case 5: return now.price;
            case 6: return now.love;
            case 7: return now.luckOfWomen();
            case 8: return now.things.stream().mapToInt(t -> sum(t.luck)).sum();
            case 9: return bits(now.women.size(), w -> now.women.get(w).widow);
            case 10: return now.log.size();
            case 11: return acts.size();
            default: return -1;
        }
    }
}
