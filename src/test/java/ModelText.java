import java.util.ArrayList;
import java.util.List;
import java.util.regex.Matcher;
import java.util.regex.Pattern;

/** The texts of the document, cut into things by a pattern and read as trees. */
final class ModelText {
    interface When {
        boolean holds(Model.World x, int w, int t, int sort);
    }

    interface Sum {
        int of(Model.World x, int w, int t, int sort);
    }

    static final class Line {
        String kind;
        int number;
        When when;
    }

    private static final class Wrong extends RuntimeException {
        private static final long serialVersionUID = 1;
    }

    private static final Pattern THING = Pattern.compile("[a-z]+|[0-9]+|[^ ]", Pattern.DOTALL);

    private final List<String> things = new ArrayList<>();
    private final List<Integer> begins = new ArrayList<>();
    private final int length;
    private int next;

    private ModelText(List<Integer> tape) {
        StringBuilder text = new StringBuilder();
        tape.forEach(b -> text.append((char) (int) b));
        Matcher m = THING.matcher(text);
        while (m.find()) {
            things.add(m.group());
            begins.add(m.start());
        }
        length = text.length();
    }

    /** The first wrong byte, or -1. */
    static int readCoast(List<Integer> tape, Model.World told) {
        ModelText text = new ModelText(tape);
        return text.readLines(14, () -> text.coastLine(told));
    }

    static int readLaw(List<Integer> tape, List<Line> told) {
        ModelText text = new ModelText(tape);
        return text.readLines(12, () -> told.add(text.lawLine()));
    }

    private int readLines(int most, Runnable line) {
        try {
            for (int lines = 0; next < things.size() || lines > 0; lines++) {
                if (lines > 0) {
                    if (next == things.size()) {
                        return -1;
                    }
                    need(";");
                }
                must(lines < most);
                line.run();
            }
            return -1;
        } catch (Wrong e) {
            return next < things.size() ? begins.get(next) : length;
        }
    }

    private void must(boolean right) {
        if (!right) {
            throw new Wrong();
        }
    }

    private boolean is(String thing) {
        return next < things.size() && things.get(next).equals(thing);
    }

    private void need(String thing) {
        must(is(thing));
        next++;
    }

    private int number(int most) {
        must(next < things.size() && things.get(next).matches("[0-9]{1,3}"));
        int number = Integer.parseInt(things.get(next));
        must(number <= most);
        next++;
        return number;
    }

    private int[] luck() {
        return new int[] {number(99), number(99), number(99), number(99)};
    }

    private void coastLine(Model.World told) {
        if (is("woman")) {
            must(told.women.size() < 8);
            next++;
            Model.Woman her = new Model.Woman();
            her.luck = luck();
            need("purse");
            her.purse = number(999);
            her.wed = option("wed") ? number(9) : 0;
            her.widow = option("widow");
            told.women.add(her);
        } else if (is("thing")) {
            must(told.things.size() < 8);
            next++;
            Model.Thing it = new Model.Thing();
            it.luck = luck();
            need("of");
            it.owner = number(told.women.size() - 1);
            it.wear = option("worn") ? number(99) : 0;
            it.holder = option("with") ? number(told.women.size() - 1) : it.owner;
            it.blue = option("blue");
            told.things.add(it);
        } else if (option("price")) {
            told.price = number(50);
        } else if (option("love")) {
            told.love = number(100);
        } else {
            need("day");
            told.day = number(999);
        }
    }

    private boolean option(String word) {
        boolean is = is(word);
        next += is ? 1 : 0;
        return is;
    }

    private Line lawLine() {
        Line line = new Line();
        line.kind = is("flow") || is("wear") ? things.get(next) : "stick";
        need(line.kind);
        line.number = line.kind.equals("stick") ? 1 : number(60);
        line.when = option("if") ? any(0) : null;
        return line;
    }

    private When any(int deep) {
        When all = all(deep);
        while (option("or")) {
            When left = all;
            When right = all(deep);
            all = (x, w, t, s) -> left.holds(x, w, t, s) || right.holds(x, w, t, s);
        }
        return all;
    }

    private When all(int deep) {
        When atom = atom(deep);
        while (option("and")) {
            When left = atom;
            When right = atom(deep);
            atom = (x, w, t, s) -> left.holds(x, w, t, s) && right.holds(x, w, t, s);
        }
        return atom;
    }

    private When atom(int deep) {
        must(deep < 6 || !is("not") && !is("("));
        if (option("not")) {
            When atom = atom(deep + 1);
            return (x, w, t, s) -> !atom.holds(x, w, t, s);
        }
        if (option("(")) {
            When any = any(deep + 1);
            need(")");
            return any;
        }
        if (option("widow")) {
            return (x, w, t, s) -> x.women.get(w).widow;
        }
        if (option("own")) {
            return (x, w, t, s) -> x.things.get(t).owner == w;
        }
        if (option("blue")) {
            return (x, w, t, s) -> x.things.get(t).blue;
        }
        Sum left = sum();
        boolean less = option("<");
        if (!less) {
            need(">");
        }
        Sum right = sum();
        return (x, w, t, s) -> {
            int a = left.of(x, w, t, s);
            int b = right.of(x, w, t, s);
            return less ? a < b : a > b;
        };
    }

    private Sum sum() {
        Sum sum = part();
        while (option("+")) {
            Sum left = sum;
            Sum right = part();
            sum = (x, w, t, s) -> left.of(x, w, t, s) + right.of(x, w, t, s);
        }
        return sum;
    }

    private Sum part() {
        String word = next < things.size() ? things.get(next) : "";
        next++;
        switch (word) {
            case "woman": return (x, w, t, s) -> w;
            case "thing": return (x, w, t, s) -> t;
            case "sort": return (x, w, t, s) -> s;
            case "wear": return (x, w, t, s) -> x.things.get(t).wear;
            case "wed": return (x, w, t, s) -> x.women.get(w).wed;
            case "has": return (x, w, t, s) -> x.women.get(w).luck[s];
            case "holds": return (x, w, t, s) -> x.things.get(t).luck[s];
            default:
                next--;
                int number = number(999);
                return (x, w, t, s) -> number;
        }
    }
}
