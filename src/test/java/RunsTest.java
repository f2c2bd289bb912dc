import java.util.ArrayList;
import java.util.Arrays;
import java.util.HashSet;
import java.util.List;
import java.util.Random;
import java.util.Set;

/**
 * All promises at once: random runs of some 500 calls on a new object, each answer against a model that
 * holds what the document says is there: text, machine, place, formed, values, what is kept.
 */
public final class RunsTest {
    // A new text takes several calls: what is begun here ends before the 512th.
    private static final int LAST_BEGUN = 480;

    private final Random r;
    private final String name;
    private final ColumnDecider x = new ColumnDecider();
    private final StringBuilder text = new StringBuilder();
    // Of what the text is, or null if that is not known but for its fault.
    private OracleTest.Tree tree;
    private OracleTest.Auto machine;
    private final OracleTest.Auto[] kept = new OracleTest.Auto[4];
    private final long[] values = new long[8];
    private int place;
    private int formed;
    private int calls;

    private RunsTest(long seed) {
        r = new Random(seed);
        name = "run " + seed + ", call ";
    }

    private void due(String what, long got, long want) {
        calls++;
        Check.due(name + calls + ": " + what, got, want);
    }

    private void due(String what, boolean got, boolean want) {
        due(what, got ? 1 : 0, want ? 1 : 0);
    }

    private void write(String part) {
        long eight = spread(part);
        boolean fits = text.length() + part.length() <= 256;
        due("write(" + eight + ")", x.write(eight), fits);
        if (fits) {
            text.append(part);
        }
    }

    /** The characters as bytes with any bytes 0 between. */
    private long spread(String part) {
        long eight = 0;
        int zeros = 8 - part.length();
        for (int i = 0; i < part.length(); i++) {
            while (zeros > 0 && r.nextInt(3) == 0) {
                zeros--;
                eight <<= 8;
            }
            eight = eight << 8 | part.charAt(i);
        }
        return eight << 8 * r.nextInt(zeros + 1);
    }

    private void writeAll(String all) {
        for (int at = 0; at < all.length(); ) {
            int end = Math.min(all.length(), at + 5 + r.nextInt(4));
            write(all.substring(at, end));
            at = end;
        }
    }

    private void writeWrong() {
        int[] wrong = {1, 9, 31, 127, 128, 200, 255};
        long eight = spread("a=1") & ~0xFFL | wrong[r.nextInt(wrong.length)];
        due("write(" + eight + ")", x.write(Long.rotateLeft(eight, 8 * r.nextInt(8))), false);
    }

    private void clear() {
        x.clear();
        calls++;
        text.setLength(0);
        tree = null;
    }

    private void newText() {
        clear();
        if (r.nextInt(5) == 0) {
            String any = FaultsTest.anyText(r);
            if (FaultsTest.dueFault(any) != FaultsTest.FINE) {
                writeAll(any);
            }
            return;
        }
        int most = new int[] {2, 4, 9, 40}[r.nextInt(4)];
        int kinds = new int[] {1, 2, 3, 6}[r.nextInt(4)];
        OracleTest.Tree some = OracleTest.tree(r, r.nextInt(4), most, kinds);
        String all = some.text(r);
        if (all.length() <= 90) {
            writeAll(all);
            tree = some;
        }
    }

    private void more() {
        String[] parts = {" ", "    ", ")", "=", "&", "1=", "     %", "a"};
        int before = text.length();
        write(parts[r.nextInt(parts.length)]);
        String added = text.substring(before).trim();
        if (!added.isEmpty() && FaultsTest.dueFault(text.toString()) == FaultsTest.FINE) {
            clear();
        }
    }

    private void compile() {
        long got = Check.answer(x::compile);
        int fault = FaultsTest.dueFault(text.toString());
        boolean fine = fault == FaultsTest.FINE;
        place = fine ? text.length() : fault;
        machine = fine && tree != null ? OracleTest.machine(tree) : null;
        formed = machine == null ? 0 : OracleTest.formed;
        long want = machine != null ? machine.step.size() : fine ? Check.STATE : Check.ARGUMENT;
        due("compile() of \"" + text + "\"", got, want);
    }

    private int state() {
        return machine == null ? r.nextInt(3) - 1 : r.nextInt(machine.step.size() + 2) - 1;
    }

    private boolean isState(int state) {
        return machine != null && state >= 0 && state < machine.step.size();
    }

    private void next() {
        int state = state();
        int letter = r.nextInt(18) - 1;
        if (machine != null && r.nextInt(3) > 0) {
            letter = r.nextInt(machine.letters() + 2) - 1;
        }
        boolean is = isState(state) && letter >= 0 && letter < machine.letters();
        String call = "next(" + state + ", " + letter + ")";
        due(call, x.next(state, letter), is ? machine.step.get(state)[letter] : -1);
    }

    private void accepts() {
        int state = state();
        long want = isState(state) ? machine.good.get(state) ? 1 : 0 : -1;
        due("accepts(" + state + ")", x.accepts(state), want);
    }

    private void variables() {
        int mask = machine == null ? -1 : 0;
        for (int i = 0; machine != null && i < machine.vars.size(); i++) {
            mask |= 1 << machine.vars.get(i);
        }
        due("variables()", x.variables(), mask);
    }

    private void value() {
        int v = r.nextInt(11) - 1;
        long value = r.nextInt(4) == 0 ? r.nextLong() : r.nextInt(41) - 20;
        boolean is = v >= 0 && v < 8;
        due("value(" + v + ", " + value + ")", x.value(v, value), is);
        if (is) {
            values[v] = value;
        }
    }

    private void valueOf() {
        int v = r.nextInt(11) - 1;
        due("valueOf(" + v + ")", x.valueOf(v), v >= 0 && v < 8 ? values[v] : 0);
    }

    private void holds() {
        long want = Check.STATE;
        if (machine != null) {
            int state = 0;
            for (int column = 0; column < 64; column++) {
                int letter = 0;
                for (int i = 0; i < machine.vars.size(); i++) {
                    letter += (values[machine.vars.get(i)] >> column & 1) << i;
                }
                state = machine.step.get(state)[letter];
            }
            want = machine.good.get(state) ? 1 : 0;
        }
        due("holds()", Check.answer(() -> x.holds() ? 1 : 0), want);
    }

    /** Forwards, by how many words come to each state; the class goes backwards. */
    private void count() {
        int n = r.nextInt(15) - 1;
        long want = n < 1 || n > 12 ? Check.ARGUMENT : Check.STATE;
        if (machine != null && want == Check.STATE) {
            long[] words = new long[machine.step.size()];
            words[0] = 1;
            for (int column = 0; column < n; column++) {
                long[] on = new long[words.length];
                for (int s = 0; s < words.length; s++) {
                    for (int to : machine.step.get(s)) {
                        on[to] += words[s];
                    }
                }
                words = on;
            }
            want = 0;
            for (int s = 0; s < words.length; s++) {
                want += machine.good.get(s) ? words[s] : 0;
            }
        }
        due("count(" + n + ")", Check.answer(() -> x.count(n)), want);
    }

    /** By the words themselves, the shorter before the longer, one for each state. */
    private void find() {
        long want = Check.STATE;
        if (machine != null) {
            List<Integer> word = firstWord();
            want = word.size();
            for (int i = 0; i < machine.vars.size() && want > 0; i++) {
                long number = -(word.get(word.size() - 1) >> i & 1);
                for (int column = 0; column < Math.min(64, word.size()); column++) {
                    long bit = word.get(column) >> i & 1;
                    number = number & ~(1L << column) | bit << column;
                }
                values[machine.vars.get(i)] = number;
            }
        }
        due("find()", Check.answer(x::find), want);
    }

    private List<Integer> firstWord() {
        List<List<Integer>> words = new ArrayList<>();
        List<Integer> ends = new ArrayList<>();
        Set<Integer> seen = new HashSet<>();
        words.add(new ArrayList<>());
        ends.add(0);
        for (int i = 0; i < words.size(); i++) {
            if (i > 0 && machine.good.get(ends.get(i))) {
                return words.get(i);
            }
            for (int letter = 0; letter < machine.letters(); letter++) {
                int to = machine.step.get(ends.get(i))[letter];
                if (seen.add(to)) {
                    List<Integer> word = new ArrayList<>(words.get(i));
                    word.add(letter);
                    words.add(word);
                    ends.add(to);
                }
            }
        }
        return new ArrayList<>();
    }

    private void keep() {
        int k = r.nextInt(7) - 1;
        boolean is = k >= 0 && k < 4;
        due("keep(" + k + ")", x.keep(k), is && machine != null);
        if (is && machine != null) {
            kept[k] = machine;
        }
    }

    private OracleTest.Auto keptIn(int k) {
        return k >= 0 && k < 4 ? kept[k] : null;
    }

    private void same() {
        int k = r.nextInt(6) - 1;
        OracleTest.Auto other = keptIn(k);
        long want = machine == null || other == null ? -1 : alike(machine, other) ? 1 : 0;
        due("same(" + k + ")", x.same(k), want);
    }

    private static boolean alike(OracleTest.Auto one, OracleTest.Auto two) {
        return told(one).equals(told(two));
    }

    private static String told(OracleTest.Auto one) {
        StringBuilder all = new StringBuilder().append(one.vars).append(one.good);
        for (int[] row : one.step) {
            all.append(Arrays.toString(row));
        }
        return all.toString();
    }

    private void join() {
        int k = r.nextInt(6) - 1;
        int how = r.nextInt(10) == 0 ? r.nextInt(2) * 4 - 1 : r.nextInt(3);
        OracleTest.Auto other = keptIn(k);
        long want = how < 0 || how > 2 || other == null ? Check.ARGUMENT : Check.STATE;
        formed = 0;
        if (want == Check.STATE && machine != null) {
            try {
                OracleTest.formed = 0;
                machine = OracleTest.paired(machine, other, how);
                formed = OracleTest.formed;
                want = machine.step.size();
            } catch (OracleTest.TooLarge e) {
                want = Check.STATE;
            }
        }
        due("join(" + k + ", " + how + ")", Check.answer(() -> x.join(k, how)), want);
    }

    private void oneCall() {
        switch (r.nextInt(24)) {
            case 0, 1 -> newText();
            case 2 -> more();
            case 3 -> writeWrong();
            case 4, 5 -> compile();
            case 6, 7 -> due("place()", x.place(), place);
            case 8, 9 -> due("formed()", x.formed(), formed);
            case 10 -> variables();
            case 11, 12 -> next();
            case 13 -> accepts();
            case 14 -> value();
            case 15 -> holds();
            case 16 -> count();
            case 17 -> find();
            case 18, 19 -> valueOf();
            case 20, 21 -> keep();
            case 22 -> same();
            default -> join();
        }
    }

    public static void main(String[] args) {
        long seed = args.length > 0 ? Long.parseLong(args[0]) : 1;
        int times = args.length > 1 ? Integer.parseInt(args[1]) : 100;
        for (int i = 0; i < times; i++) {
            RunsTest run = new RunsTest(seed + i);
            while (run.calls < LAST_BEGUN) {
                run.oneCall();
            }
        }
        System.out.println(times + " runs");
        Check.end();
    }
}
