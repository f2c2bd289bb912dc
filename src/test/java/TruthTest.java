import java.util.Random;
import java.util.function.LongPredicate;
import java.util.function.Predicate;

/** Promises 4, 11, 12, 13: what machines say against what formulas mean. */
public final class TruthTest {
    /** A formula and what it means of the numbers a, b, c. */
    static final class Meant {
        final String text;
        final Predicate<long[]> truth;

        Meant(String text, Predicate<long[]> truth) {
            this.text = text;
            this.truth = truth;
        }
    }

    private static void about(String text, LongPredicate truth) {
        ColumnDecider x = Check.compiled(text);
        Check.due("\"" + text + "\": variables()", x.variables(), 1);
        for (long a = -300; a <= 300; a++) {
            x.value(0, a);
            Check.due("\"" + text + "\" with " + a, x.holds(), truth.test(a));
        }
    }

    private static void decided(String text, boolean truth) {
        ColumnDecider x = Check.compiled(text);
        Check.due("\"" + text + "\": variables()", x.variables(), 0);
        Check.due("\"" + text + "\"", x.holds(), truth);
        Check.due("\"" + text + "\": find()", x.find(), truth ? 1 : 0);
    }

    private static boolean isSum(long a, int p, int q) {
        for (long b = 0; b * p <= a; b++) {
            if ((a - b * p) % q == 0) {
                return true;
            }
        }
        return false;
    }

    private static void quantified() {
        about("E b. a = 2b", a -> a % 2 == 0);
        about("E b. a = 3b + 1", a -> Math.floorMod(a, 3) == 1);
        about("A b. b:2 | b + a != 0", a -> a % 2 == 0);
        about("E b. E c. a = 6b + 9c", a -> a % 3 == 0);
        about("E b. b >= 0 & E c. c >= 0 & a = 3b + 5c", a -> isSum(a, 3, 5));
        about("A b. b > a => b > 5", a -> a >= 5);
        about("A b. b > a | b < 3", a -> a < 3);
        about("E b. a < 2b & 2b < a + 2", a -> a % 2 != 0);
        about("a = 1 & E a. a = 2", a -> a == 1);
        about("E b. b = 7 & (E b. b = 9) & a = b", a -> a == 7);
        about("E c. a = 2c & !E b. c = 2b", a -> Math.floorMod(a, 4) == 2);
        about("A b. (E c. b = 4c) => a != b", a -> a % 4 != 0);
        about("a > 100 => a : 7 => a : 5", a -> a <= 100 || a % 7 != 0 || a % 5 == 0);
        about("a : 2 | a : 3 & a : 5", a -> a % 2 == 0 || a % 15 == 0);
        about("!a : 2 & a : 3", a -> a % 2 != 0 && a % 3 == 0);
        about("!(a : 2 & a : 3)", a -> a % 6 != 0);
        about("a - 3 : 10", a -> Math.floorMod(a, 10) == 3);
        about("E b. b < 0 & a = 5b", a -> a < 0 && a % 5 == 0);
        about("A b. b >= 0 => a + b != 20", a -> a > 20);
        decided("A a. E b. b > a & b:3", true);
        decided("E a. A b. b <= a", false);
        decided("A a. a < 5", false);
        decided("A a. A b. a < b => a + 1 <= b", true);
        decided("A a. a:2 | a+1:2", true);
        decided("A a. E b. a = 2b | a = 2b + 1", true);
        decided("A a. A b. E c. a < b => a < c & c < b", false);
        decided("A a. a > 7 => E b. b >= 0 & E c. c >= 0 & a = 3b + 5c", true);
        decided("A a. a > 6 => E b. b >= 0 & E c. c >= 0 & a = 3b + 5c", false);
    }

    private static Meant comparison(Random r) {
        long[] left = {r.nextInt(5), r.nextInt(4), r.nextInt(3), r.nextInt(12)};
        long[] right = {r.nextInt(4), r.nextInt(3), r.nextInt(3), r.nextInt(12)};
        String sides = sum(left);
        if (r.nextInt(4) == 0) {
            int n = 1 + r.nextInt(6);
            return new Meant(sides + ":" + n, x -> Math.floorMod(of(left, x), (long) n) == 0);
        }
        int sign = r.nextInt(6);
        String text = sides + new String[] {"=", "<", ">", "<=", ">=", "!="}[sign] + sum(right);
        return new Meant(text, x -> compared(of(left, x), sign, of(right, x)));
    }

    private static String sum(long[] a) {
        return a[0] + "a-" + a[1] + "b+" + a[2] + "c-" + a[3];
    }

    private static long of(long[] a, long[] x) {
        return a[0] * x[0] - a[1] * x[1] + a[2] * x[2] - a[3];
    }

    private static boolean compared(long left, int sign, long right) {
        switch (sign) {
            case 0:
                return left == right;
            case 1:
                return left < right;
            case 2:
                return left > right;
            case 3:
                return left <= right;
            case 4:
                return left >= right;
            default:
                return left != right;
        }
    }

    private static Meant meant(Random r, int depth) {
        int pick = depth == 0 ? 0 : r.nextInt(5);
        if (pick == 0) {
            return comparison(r);
        }
        Meant one = meant(r, depth - 1);
        if (pick == 1) {
            return new Meant("!(" + one.text + ")", one.truth.negate());
        }
        Meant two = meant(r, depth - 1);
        String sign = pick == 2 ? "&" : pick == 3 ? "|" : "=>";
        Predicate<long[]> truth = pick == 2 ? one.truth.and(two.truth)
                : pick == 3 ? one.truth.or(two.truth) : one.truth.negate().or(two.truth);
        return new Meant("(" + one.text + ")" + sign + "(" + two.text + ")", truth);
    }

    /** A number of so many columns by the bits of a word, the first column's the highest. */
    private static long number(int word, int columns, int variable, int variables) {
        long x = 0;
        for (int i = 0; i < columns; i++) {
            int letter = word >> variables * (columns - 1 - i) & (1 << variables) - 1;
            long bit = letter >> variable & 1;
            x += i == columns - 1 ? -(bit << i) : bit << i;
        }
        return x;
    }

    private static long[] numbers(int word, int columns, int names) {
        long[] x = new long[3];
        int variable = 0;
        for (int v = 0; v < 3; v++) {
            if ((names >> v & 1) != 0) {
                x[v] = number(word, columns, variable, Integer.bitCount(names));
                variable++;
            }
        }
        return x;
    }

    private static void words(ColumnDecider x, Meant meant) {
        int variables = Integer.bitCount(x.variables());
        int found = 0;
        for (int columns = 1; columns <= 4; columns++) {
            int count = 0;
            for (int word = 0; word < 1 << variables * columns; word++) {
                long[] numbers = numbers(word, columns, x.variables());
                if (meant.truth.test(numbers)) {
                    count++;
                    if (found == 0) {
                        found = columns;
                        firstFound(x, meant, columns, numbers);
                    }
                }
            }
            Check.due(meant.text + ": count(" + columns + ")", x.count(columns), count);
        }
        if (found == 0) {
            int columns = x.find();
            Check.due(meant.text + ": find() finds no shorter", columns == 0 || columns > 4, true);
        }
    }

    private static void firstFound(ColumnDecider x, Meant meant, int columns, long[] numbers) {
        Check.due(meant.text + ": find()", x.find(), columns);
        for (int v = 0; v < 3; v++) {
            if ((x.variables() >> v & 1) != 0) {
                Check.due(meant.text + ": find(), valueOf(" + v + ")", x.valueOf(v), numbers[v]);
            }
        }
        Check.due(meant.text + ": holds() with what is found", x.holds(), true);
    }

    private static void meanings(Random r, int times) {
        ColumnDecider x = new ColumnDecider();
        for (int i = 0; i < times; i++) {
            Meant meant = meant(r, 2);
            if (meant.text.length() > 256 || Check.compile(x, meant.text) < 0) {
                continue;
            }
            words(x, meant);
            for (int j = 0; j < 50; j++) {
                long far = 1L << r.nextInt(40);
                long[] numbers = new long[3];
                for (int v = 0; v < 3; v++) {
                    numbers[v] = (r.nextLong() % far);
                    x.value(v, numbers[v]);
                }
                Check.due(meant.text + ": holds()", x.holds(), meant.truth.test(numbers));
            }
        }
    }

    public static void main(String[] args) {
        long seed = args.length > 0 ? Long.parseLong(args[0]) : 1;
        int times = args.length > 1 ? Integer.parseInt(args[1]) : 500;
        quantified();
        meanings(new Random(seed), times);
        Check.end();
    }
}
