import java.lang.reflect.InvocationTargetException;
import java.lang.reflect.Method;
import java.util.Random;

/** Random runs of calls, each answered by the class and by the Model: promises 1 to 50. */
public final class ModelTest {
    private static final int RUNS = 1500;
    private static final String[] CALLS = {"feed", "end", "fault", "woman", "thing", "gain", "flows", "lend", "lend", "wed", "wed",
        "wed", "pawn", "redeem", "cut", "cut", "widow", "days", "days", "best", "order", "lowest", "reach", "chain", "since",
        "whose", "next", "match", "rests", "sells", "dearest", "unlucky", "luckiest", "ring", "runs", "spent", "oldest", "stuck",
        "pawned", "blue", "alike", "share", "odds", "trial", "span", "led", "log", "seed", "undo", "image", "back", "count"};

    private final Random random;
    private final int run;
    private final BorrowedLuck luck = new BorrowedLuck();
    private final Model model = new Model();

    private ModelTest(int run) {
        this.run = run;
        this.random = new Random(run);
    }

    public static void main(String[] args) throws ReflectiveOperationException {
        for (int run = 1; run <= RUNS; run++) {
            new ModelTest(run).go();
        }
        Check.end();
    }

    private void go() throws ReflectiveOperationException {
        int steps = 20 + below(100);
        for (int step = 0; step < steps; step++) {
            if (step == 0 || below(30) == 0) {
                text("coast", coastText(step == 0));
            } else if (step == 1 && below(4) > 0 || below(30) == 0) {
                text("law", lawText());
            } else if (below(30) == 0) {
                text(below(2) == 0 ? "whose" : "next", toldLuck());
            } else {
                call(CALLS[below(CALLS.length)]);
            }
        }
        Check.same("run " + run + " in the end", Check.seen(luck), seenOfModel());
    }

    private int below(int n) {
        return random.nextInt(n);
    }

    private String pick(String... texts) {
        return texts[below(texts.length)];
    }

    // Calls

    private void text(String name, String text) throws ReflectiveOperationException {
        String told = text.length() > 400 ? text.substring(0, 400) : text;
        Check.tape(luck, told);
        model.end(0);
        for (int from = 0; from < told.length(); from += 20) {
            int[] five = new int[5];
            for (int i = 0; i < 20; i++) {
                five[i / 4] = five[i / 4] << 8 | (from + i < told.length() ? told.charAt(from + i) : 0);
            }
            model.feed(five[0], five[1], five[2], five[3], five[4]);
        }
        model.end(told.length());
        both(name + " of " + told, method(BorrowedLuck.class, name), method(Model.class, name), new Object[0]);
        Check.due("run " + run + " fault of " + told, luck.fault(), model.fault());
    }

    private void call(String name) throws ReflectiveOperationException {
        Method of = method(BorrowedLuck.class, name);
        Class<?>[] types = of.getParameterTypes();
        Object[] values = new Object[types.length];
        StringBuilder told = new StringBuilder(name);
        for (int i = 0; i < types.length; i++) {
            values[i] = types[i] == boolean.class ? (Object) (below(2) == 0) : (Object) value(name, i);
            told.append(i == 0 ? "(" : ", ").append(values[i]);
        }
        if (name.equals("wed") && below(5) > 0) {
            holderOf(values);
        }
        both(told.toString(), of, method(Model.class, name), values);
    }

    /** Lets a WEDDING be with a THING that she HOLDS. */
    private void holderOf(Object[] values) {
        int t = (Integer) values[1];
        if (t >= 0 && t < luck.count(1) && luck.thing(t, 5) >= 0) {
            values[0] = luck.thing(t, 5);
        }
    }

    private void both(String told, Method of, Method ofModel, Object[] values) throws IllegalAccessException {
        Check.same("run " + run + " " + told, answer(of, luck, values), answer(ofModel, model, values));
    }

    private static String answer(Method of, Object on, Object[] values) throws IllegalAccessException {
        try {
            return String.valueOf(of.invoke(on, values));
        } catch (InvocationTargetException e) {
            return "throws " + e.getCause().getClass().getSimpleName();
        }
    }

    private static Method method(Class<?> type, String name) {
        for (Method m : type.getDeclaredMethods()) {
            boolean plain = !m.isSynthetic() && (type != BorrowedLuck.class || java.lang.reflect.Modifier.isPublic(m.getModifiers()));
            if (plain && m.getName().equals(name)) {
                m.setAccessible(true);
                return m;
            }
        }
        throw new AssertionError("no method " + name);
    }

    private String seenOfModel() {
        StringBuilder all = new StringBuilder();
        for (int what = 0; what <= 11; what++) {
            all.append(model.count(what)).append(' ');
        }
        for (int w = 0; w < model.count(0); w++) {
            for (int what = 0; what <= 9; what++) {
                all.append(model.woman(w, what)).append(' ');
            }
        }
        for (int t = 0; t < model.count(1); t++) {
            for (int what = 0; what <= 9; what++) {
                all.append(model.thing(t, what)).append(' ');
            }
        }
        for (int ago = 0; ago < model.count(10); ago++) {
            for (int what = 0; what <= 3; what++) {
                all.append(model.log(ago, what)).append(' ');
            }
        }
        int things = model.count(1);
        for (int i = 0; i < model.count(0) * things * 4; i++) {
            all.append(model.flows(i / 4 / things, i / 4 % things, i % 4)).append(' ');
        }
        return all.append(model.now.seed).toString();
    }

    // Numbers

    private int value(String name, int i) {
        switch (name + i) {
            case "woman0": case "gain0": case "flows0": case "lend1": case "wed0": case "widow0": case "best0": case "reach0":
            case "since0": case "since1": case "rests0": case "rests1": case "ring0": case "share0": case "led0":
                return oneOf(luck.count(0));
            case "thing0": case "gain1": case "flows1": case "lend0": case "wed1": case "pawn0": case "redeem0": case "cut0":
            case "order0": case "lowest0": case "reach1": case "chain0": case "rests2": case "runs0": case "spent0":
                return oneOf(luck.count(1));
            case "flows2": case "reach2": case "luckiest0": case "share1": case "log1":
                return oneOf(4);
            case "woman1": case "thing1": return oneOf(10);
            case "order1": case "lowest1": case "match0": return women();
            case "order2": case "match1": return below(8) - 3 < -2 ? -1 : below(7) - 1;
            case "reach3": return below(60) == 0 ? 100 : below(100);
            case "days0": return below(3) == 0 ? below(63) - 1 : 1 + below(3);
            case "sells0": return below(53) - 1;
            case "runs1": case "trial0": case "span0": case "log0": return below(63) - 1;
            case "count0": return below(14) - 1;
            case "end0": return below(60) - 5;
            default: return random.nextInt();
        }
    }

    private int oneOf(int n) {
        return n > 0 && below(25) > 0 ? below(n) : below(20) - 6;
    }

    private int women() {
        int bits = below(256) & below(256);
        return below(10) == 0 ? random.nextInt() : bits;
    }

    // Texts

    private String luckOfFour() {
        StringBuilder four = new StringBuilder();
        for (int s = 0; s < 4; s++) {
            four.append(s == 0 ? "" : " ").append(below(3) == 0 ? 10 * below(4) : below(100));
        }
        return four.toString();
    }

    private String coastText(boolean first) {
        StringBuilder text = new StringBuilder();
        int women = luck.count(0);
        int lines = first ? 5 + below(8) : below(16);
        for (int i = 0; i < lines; i++) {
            text.append(i == 0 ? "" : pick(";", " ; ", ";"));
            int kind = first && i < 2 ? 0 : first && i < 4 ? 5 : below(10);
            if (kind < 4) {
                women++;
                text.append("woman ").append(luckOfFour()).append(" purse ").append(below(40));
                text.append(below(4) == 0 ? " wed " + below(11) : "").append(below(5) == 0 ? " widow" : "");
            } else if (kind < 8) {
                int bound = Math.max(1, women + (below(20) == 0 ? 1 : 0));
                text.append("thing ").append(luckOfFour()).append(" of ").append(below(bound));
                text.append(below(4) == 0 ? " worn " + below(100) : "").append(below(3) == 0 ? " with " + below(bound) : "");
                text.append(below(4) == 0 ? " blue" : "");
            } else {
                text.append(pick("price ", "love ", "day ")).append(below(60));
            }
        }
        return spoilt(text, first);
    }

    private String lawText() {
        StringBuilder text = new StringBuilder();
        int lines = below(8) == 0 ? 11 + below(3) : below(6);
        for (int i = 0; i < lines; i++) {
            text.append(i == 0 ? "" : pick(";", " ; ", ";"));
            text.append(below(4) == 0 ? "stick" : pick("flow ", "flow ", "wear ") + below(below(20) == 0 ? 62 : 30));
            text.append(below(5) == 0 ? "" : " if " + any(0));
        }
        return spoilt(text, false);
    }

    private String any(int deep) {
        return all(deep) + (below(4) == 0 ? " or " + all(deep) : "");
    }

    private String all(int deep) {
        return atom(deep) + (below(4) == 0 ? " and " + atom(deep) : "");
    }

    private String atom(int deep) {
        if (deep < 8 && below(4) == 0) {
            return below(2) == 0 ? "not " + atom(deep + 1) : "(" + any(deep + 1) + ")";
        }
        return below(3) == 0 ? pick("widow", "own", "blue") : sum() + pick("<", ">", " < ", " > ") + sum();
    }

    private String sum() {
        String part = pick("woman", "thing", "sort", "wear", "wed", "has", "holds", "has", "holds", "" + below(100), "" + below(1000));
        return part + (below(4) == 0 ? pick("+", " + ") + sum() : "");
    }

    /** At times one sign of a text is another one, or one too few or too many. */
    private String spoilt(StringBuilder text, boolean never) {
        if (!never && text.length() > 0 && below(4) == 0) {
            int at = below(text.length());
            char sign = "az09 ;()<>+A~\000\377".charAt(below(15));
            switch (below(3)) {
                case 0: text.deleteCharAt(at); break;
                case 1: text.setCharAt(at, sign); break;
                default: text.insert(at, sign);
            }
        }
        return text.toString();
    }

    private String toldLuck() {
        StringBuilder told = new StringBuilder();
        int pairs = below(15) == 0 ? 19 + below(3) : below(3);
        for (int i = 0; i < pairs; i++) {
            int sort = below(4);
            int women = luck.count(0);
            told.append((char) sort).append((char) (women > 0 ? luck.woman(below(women), sort) : below(100)));
        }
        return spoilt(told, false);
    }
}
