import java.util.ArrayList;
import java.util.HashMap;
import java.util.List;
import java.util.Map;
import java.util.Random;
import java.util.TreeSet;

/** Promises 4, 6 to 9, 17: random formulas against machines made word by word as the document says. */
public final class OracleTest {
    static final class TooLarge extends Exception {
        private static final long serialVersionUID = 1L;
    }

    static final class Auto {
        List<Integer> vars = new ArrayList<>();
        List<int[]> step = new ArrayList<>();
        List<Boolean> good = new ArrayList<>();

        int letters() {
            return 1 << vars.size();
        }
    }

    /** A rough machine by the names of its states; a name's end tells whether it accepts. */
    abstract static class Rule {
        abstract String first();

        abstract String go(String state, int letter);
    }

    static int formed;

    private static Auto form(List<Integer> vars, Rule rule) throws TooLarge {
        if (vars.size() > 4) {
            throw new TooLarge();
        }
        Auto rough = new Auto();
        rough.vars = vars;
        Map<String, Integer> number = new HashMap<>();
        List<String> names = new ArrayList<>();
        names.add(rule.first());
        number.put(rule.first(), 0);
        for (int s = 0; s < names.size(); s++) {
            int[] row = new int[rough.letters()];
            for (int letter = 0; letter < row.length; letter++) {
                String to = rule.go(names.get(s), letter);
                if (!number.containsKey(to)) {
                    number.put(to, names.size());
                    names.add(to);
                    if (names.size() > 1000) {
                        throw new TooLarge();
                    }
                }
                row[letter] = number.get(to);
            }
            rough.step.add(row);
            rough.good.add(names.get(s).endsWith("+"));
        }
        formed += names.size();
        Auto least = least(rough);
        if (least.step.size() > 96) {
            throw new TooLarge();
        }
        return least;
    }

    private static Auto least(Auto rough) {
        int n = rough.step.size();
        int[] kind = new int[n];
        for (int s = 0; s < n; s++) {
            kind[s] = rough.good.get(s) ? 1 : 0;
        }
        int before = -1;
        while (true) {
            Map<List<Integer>, Integer> kinds = new HashMap<>();
            int[] finer = new int[n];
            for (int s = 0; s < n; s++) {
                List<Integer> key = new ArrayList<>();
                key.add(kind[s]);
                for (int to : rough.step.get(s)) {
                    key.add(kind[to]);
                }
                Integer had = kinds.get(key);
                if (had == null) {
                    had = 1000 - kinds.size();
                    kinds.put(key, had);
                }
                finer[s] = had;
            }
            kind = finer;
            if (kinds.size() == before) {
                break;
            }
            before = kinds.size();
        }
        return numbered(rough, kind);
    }

    private static Auto numbered(Auto rough, int[] kind) {
        Auto least = new Auto();
        least.vars = rough.vars;
        Map<Integer, Integer> number = new HashMap<>();
        List<Integer> some = new ArrayList<>();
        number.put(kind[0], 0);
        some.add(0);
        for (int i = 0; i < some.size(); i++) {
            int[] row = new int[rough.letters()];
            for (int letter = 0; letter < row.length; letter++) {
                int to = rough.step.get(some.get(i))[letter];
                if (!number.containsKey(kind[to])) {
                    number.put(kind[to], some.size());
                    some.add(to);
                }
                row[letter] = number.get(kind[to]);
            }
            least.step.add(row);
            least.good.add(rough.good.get(some.get(i)));
        }
        return least;
    }

    abstract static class Tree {
        abstract Auto make() throws TooLarge;

        /** 0 formula, 1 either, 2 both, 3 plain. */
        abstract int rank();

        abstract String text(Random r);

        String text(Random r, int least) {
            return rank() < least || r.nextInt(12) == 0 ? "(" + text(r) + ")" : text(r);
        }
    }

    private static String space(Random r) {
        int n = r.nextInt(6);
        return n == 0 ? " " : n == 1 ? "  " : "";
    }

    private static long floorMod(long a, long n) {
        return (a % n + n) % n;
    }

    static final class Compare extends Tree {
        final List<int[]> left;
        final List<int[]> right;
        final String sign;
        final int n;

        Compare(List<int[]> left, String sign, List<int[]> right, int n) {
            this.left = left;
            this.right = right;
            this.sign = sign;
            this.n = n;
        }

        int rank() {
            return 3;
        }

        private String sum(Random r, List<int[]> parts) {
            StringBuilder out = new StringBuilder();
            for (int[] part : parts) {
                if (part[0] < 0) {
                    out.append("-");
                } else if (out.length() > 0) {
                    out.append("+");
                }
                out.append(space(r));
                boolean bare = part[1] >= 0 && Math.abs(part[0]) == 1 && r.nextInt(3) > 0;
                if (!bare) {
                    String digits = Integer.toString(Math.abs(part[0]));
                    out.append(digits.length() < 4 && r.nextInt(9) == 0 ? "0" + digits : digits);
                    out.append(space(r));
                }
                if (part[1] >= 0) {
                    out.append((char) ('a' + part[1]));
                }
                out.append(space(r));
            }
            return out.toString();
        }

        String text(Random r) {
            String end = sign.equals(":") ? Integer.toString(n) + space(r) : sum(r, right);
            return sum(r, left) + sign + space(r) + end;
        }

        Auto make() throws TooLarge {
            long[] a = new long[9];
            boolean turned = sign.equals(">") || sign.equals(">=");
            for (int[] part : left) {
                a[part[1] < 0 ? 8 : part[1]] += turned ? -part[0] : part[0];
            }
            if (!sign.equals(":")) {
                for (int[] part : right) {
                    a[part[1] < 0 ? 8 : part[1]] -= turned ? -part[0] : part[0];
                }
            }
            long c = a[8] + (sign.equals("<") || sign.equals(">") ? 1 : 0);
            List<Integer> vars = new ArrayList<>();
            for (int v = 0; v < 8; v++) {
                if (a[v] != 0) {
                    vars.add(v);
                }
            }
            if (sign.equals(":")) {
                return form(vars, divided(vars, a, c));
            }
            boolean equal = sign.equals("=") || sign.equals("!=");
            Auto made = form(vars, compared(vars, a, c, equal));
            return sign.equals("!=") ? denied(made) : made;
        }

        private static long gain(List<Integer> vars, long[] a, int letter) {
            long g = 0;
            for (int i = 0; i < vars.size(); i++) {
                g += (letter >> i & 1) * a[vars.get(i)];
            }
            return g;
        }

        private Rule divided(List<Integer> vars, long[] a, long c) {
            return new Rule() {
                String first() {
                    return floorMod(c, n) + "," + floorMod(1, n) + ",-";
                }

                String go(String state, int letter) {
                    String[] p = state.split(",");
                    long r = Long.parseLong(p[0]);
                    long w = Long.parseLong(p[1]);
                    long g = gain(vars, a, letter);
                    String mark = floorMod(r - w * g, n) == 0 ? "+" : "-";
                    return floorMod(r + w * g, n) + "," + floorMod(2 * w, n) + "," + mark;
                }
            };
        }

        private Rule compared(List<Integer> vars, long[] a, long c, boolean equal) {
            return new Rule() {
                String first() {
                    return -c + ",-";
                }

                String go(String state, int letter) {
                    if (state.equals("lost")) {
                        return state;
                    }
                    long s = Long.parseLong(state.split(",")[0]);
                    long g = gain(vars, a, letter);
                    if (equal && floorMod(s - g, 2) == 1) {
                        return "lost";
                    }
                    boolean mark = equal ? s + g == 0 : s + g >= 0;
                    return Math.floorDiv(s - g, 2) + (mark ? ",+" : ",-");
                }
            };
        }
    }

    private static Auto denied(Auto f) throws TooLarge {
        return form(f.vars, new Rule() {
            String first() {
                return "first";
            }

            String go(String state, int letter) {
                int from = state.equals("first") ? 0 : Integer.parseInt(state.split(",")[0]);
                int to = f.step.get(from)[letter];
                return to + (f.good.get(to) ? ",-" : ",+");
            }
        });
    }

    private static Auto exists(int v, Auto f) throws TooLarge {
        if (!f.vars.contains(v)) {
            return f;
        }
        List<Integer> rest = new ArrayList<>(f.vars);
        rest.remove(Integer.valueOf(v));
        return form(rest, new Rule() {
            String first() {
                return "0,-";
            }

            private TreeSet<Integer> after(TreeSet<Integer> set, int letter) {
                TreeSet<Integer> to = new TreeSet<>();
                for (int s : set) {
                    for (int wide = 0; wide < f.letters(); wide++) {
                        if (narrowed(wide, f.vars, rest) == letter) {
                            to.add(f.step.get(s)[wide]);
                        }
                    }
                }
                return to;
            }

            String go(String state, int letter) {
                TreeSet<Integer> set = new TreeSet<>();
                for (String s : state.split(",")[0].split(" ")) {
                    set.add(Integer.parseInt(s));
                }
                TreeSet<Integer> to = after(set, letter);
                StringBuilder name = new StringBuilder();
                for (int s : to) {
                    name.append(name.length() > 0 ? " " : "").append(s);
                }
                boolean mark = false;
                List<TreeSet<Integer>> seen = new ArrayList<>();
                for (TreeSet<Integer> on = to; !seen.contains(on); on = after(on, letter)) {
                    seen.add(on);
                    for (int s : on) {
                        mark |= f.good.get(s);
                    }
                }
                return name + (mark ? ",+" : ",-");
            }
        });
    }

    private static int narrowed(int letter, List<Integer> wide, List<Integer> narrow) {
        int out = 0;
        for (int i = 0; i < narrow.size(); i++) {
            out |= (letter >> wide.indexOf(narrow.get(i)) & 1) << i;
        }
        return out;
    }

    static Auto paired(Auto f, Auto g, int how) throws TooLarge {
        TreeSet<Integer> both = new TreeSet<>(f.vars);
        both.addAll(g.vars);
        List<Integer> vars = new ArrayList<>(both);
        return form(vars, new Rule() {
            String first() {
                return "0 0,-";
            }

            String go(String state, int letter) {
                String[] p = state.split(",")[0].split(" ");
                int l = f.step.get(Integer.parseInt(p[0]))[narrowed(letter, vars, f.vars)];
                int r = g.step.get(Integer.parseInt(p[1]))[narrowed(letter, vars, g.vars)];
                boolean a = f.good.get(l);
                boolean b = g.good.get(r);
                boolean mark = how == 0 ? a && b : how == 1 ? a || b : !a || b;
                return l + " " + r + (mark ? ",+" : ",-");
            }
        });
    }

    static final class Two extends Tree {
        final Tree left;
        final Tree right;
        final int how;

        Two(Tree left, int how, Tree right) {
            this.left = left;
            this.right = right;
            this.how = how;
        }

        int rank() {
            return how == 0 ? 2 : how == 1 ? 1 : 0;
        }

        String text(Random r) {
            String sign = how == 0 ? "&" : how == 1 ? "|" : "=>";
            int leftLeast = how == 0 ? 2 : 1;
            int rightLeast = how == 0 ? 3 : how == 1 ? 2 : 0;
            // A quantifier goes as far as it goes: it stands in parentheses at the left.
            String at = left.text(r, leftLeast);
            if (at.indexOf('.') >= 0) {
                at = "(" + at + ")";
            }
            return at + space(r) + sign + space(r) + right.text(r, rightLeast);
        }

        Auto make() throws TooLarge {
            Auto f = left.make();
            return paired(f, right.make(), how);
        }
    }

    static final class Not extends Tree {
        final Tree of;

        Not(Tree of) {
            this.of = of;
        }

        int rank() {
            return 3;
        }

        String text(Random r) {
            return "!" + space(r) + of.text(r, 3);
        }

        Auto make() throws TooLarge {
            return denied(of.make());
        }
    }

    static final class Quantified extends Tree {
        final boolean all;
        final int v;
        final Tree of;

        Quantified(boolean all, int v, Tree of) {
            this.all = all;
            this.v = v;
            this.of = of;
        }

        int rank() {
            return 3;
        }

        String text(Random r) {
            String name = "" + (char) ('a' + v);
            return (all ? "A" : "E") + space(r) + name + space(r) + "." + of.text(r, 0);
        }

        Auto make() throws TooLarge {
            Auto f = of.make();
            return all ? denied(exists(v, denied(f))) : exists(v, f);
        }
    }

    private static final String[] SIGNS = {"=", "<", ">", "<=", ">=", "!=", ":"};

    private static List<int[]> sum(Random r, int most, int kinds) {
        List<int[]> parts = new ArrayList<>();
        for (int i = 0; i <= r.nextInt(3); i++) {
            int many = 1 + r.nextInt(1 + r.nextInt(most));
            int v = r.nextInt(4) == 0 ? -1 : r.nextInt(kinds);
            parts.add(new int[] {r.nextInt(3) == 0 ? -many : many, v});
        }
        return parts;
    }

    static Tree tree(Random r, int depth, int most, int kinds) {
        int pick = depth == 0 ? 0 : r.nextInt(9);
        if (pick < 2) {
            String sign = SIGNS[r.nextInt(SIGNS.length)];
            int n = 1 + r.nextInt(most + 3);
            return new Compare(sum(r, most, kinds), sign, sum(r, most, kinds), n);
        }
        Tree one = tree(r, depth - 1, most, kinds);
        if (pick == 2) {
            return new Not(one);
        }
        if (pick < 5) {
            return new Quantified(r.nextInt(2) == 0, r.nextInt(kinds), one);
        }
        return new Two(one, r.nextInt(3), tree(r, depth - 1, most, kinds));
    }

    private static void compare(String text, ColumnDecider x, Auto due) {
        Check.due(text + ": formed()", x.formed(), formed);
        int mask = 0;
        for (int v : due.vars) {
            mask |= 1 << v;
        }
        Check.due(text + ": variables()", x.variables(), mask);
        for (int s = 0; s < due.step.size(); s++) {
            Check.due(text + ": accepts(" + s + ")", x.accepts(s), due.good.get(s) ? 1 : 0);
            for (int letter = 0; letter < due.letters(); letter++) {
                long got = x.next(s, letter);
                Check.due(text + ": next(" + s + ", " + letter + ")", got, due.step.get(s)[letter]);
            }
            Check.due(text + ": next, no letter", x.next(s, due.letters()), -1);
        }
        Check.due(text + ": accepts, no state", x.accepts(due.step.size()), -1);
        Check.due(text + ": next, no state", x.next(due.step.size(), 0), -1);
    }

    /** The machine that is due, or null if it is too large; with it what was formed. */
    static Auto machine(Tree tree) {
        formed = 0;
        try {
            return tree.make();
        } catch (TooLarge e) {
            formed = 0;
            return null;
        }
    }

    private static int large;

    private static Auto once(ColumnDecider x, Tree tree, String text) {
        long got = Check.compile(x, text);
        Auto due = machine(tree);
        Check.due(text + ": place()", x.place(), text.length());
        if (due == null) {
            large++;
            Check.due(text + ": compile()", got, Check.STATE);
            Check.due(text + ": variables()", x.variables(), -1);
            Check.due(text + ": formed()", x.formed(), 0);
        } else {
            Check.due(text + ": compile()", got, due.step.size());
            compare(text, x, due);
        }
        return due;
    }

    private static void joins(ColumnDecider x, Tree one, Tree two, int how, Random r) {
        String texts = two.text(r) + " kept, " + one.text(r) + " joined " + how;
        Auto kept = once(x, two, two.text(r));
        if (kept == null) {
            return;
        }
        Check.due("keep(3)", x.keep(3), true);
        Auto left = once(x, one, one.text(r));
        if (left == null) {
            Check.due(texts, Check.answer(() -> x.join(3, how)), Check.STATE);
            return;
        }
        formed = 0;
        long got = Check.answer(() -> x.join(3, how));
        try {
            Auto due = paired(left, kept, how);
            Check.due(texts, got, due.step.size());
            compare(texts, x, due);
        } catch (TooLarge e) {
            formed = 0;
            large++;
            Check.due(texts, got, Check.STATE);
            compare(texts, x, left);
        }
    }

    public static void main(String[] args) {
        long seed = args.length > 0 ? Long.parseLong(args[0]) : 1;
        int times = args.length > 1 ? Integer.parseInt(args[1]) : 1500;
        Random r = new Random(seed);
        ColumnDecider x = new ColumnDecider();
        int done = 0;
        for (int i = 0; i < times; i++) {
            int most = new int[] {2, 5, 12, 60}[r.nextInt(4)];
            int kinds = new int[] {1, 2, 3, 5, 8}[r.nextInt(5)];
            Tree tree = tree(r, r.nextInt(6), most, kinds);
            String text = tree.text(r);
            if (text.length() <= 256) {
                once(x, tree, text);
                done++;
            }
            Tree one = tree(r, 1, most, kinds);
            Tree two = tree(r, 1, most, kinds);
            if (one.text(r).length() < 150 && two.text(r).length() < 150) {
                joins(x, one, two, r.nextInt(3), r);
            }
        }
        System.out.println(done + " formulas, " + large + " machines too large");
        Check.end();
    }
}
