/** Each promise by hand: ordinary inputs, the edges that the document names, wrong inputs. */
public final class PromisesTest {
    public static void main(String[] args) {
        newObject();
        write();
        clear();
        compile();
        tooLarge();
        place();
        formed();
        variables();
        next();
        accepts();
        value();
        holds();
        count();
        find();
        findLong();
        valueOf();
        keep();
        same();
        join();
        Check.end();
    }

    private static void newObject() {
        ColumnDecider x = new ColumnDecider();
        Check.due("new: place()", x.place(), 0);
        Check.due("new: formed()", x.formed(), 0);
        Check.due("new: variables()", x.variables(), -1);
        Check.due("new: next(0, 0)", x.next(0, 0), -1);
        Check.due("new: accepts(0)", x.accepts(0), -1);
        Check.due("new: holds()", Check.answer(() -> x.holds() ? 1 : 0), Check.STATE);
        Check.due("new: count(1)", Check.answer(() -> x.count(1)), Check.STATE);
        Check.due("new: find()", Check.answer(x::find), Check.STATE);
        for (int k = -1; k <= 4; k++) {
            int place = k;
            Check.due("new: keep(" + k + ")", x.keep(k), false);
            Check.due("new: same(" + k + ")", x.same(k), -1);
            Check.due("new: join(" + k + ")", Check.answer(() -> x.join(place, 0)), Check.ARGUMENT);
        }
        for (int v = 0; v < 8; v++) {
            Check.due("new: valueOf(" + v + ")", x.valueOf(v), 0);
        }
        Check.due("new: compile()", Check.answer(x::compile), Check.ARGUMENT);
        Check.due("new: place() of no text", x.place(), 0);
    }

    private static void write() {
        ColumnDecider x = new ColumnDecider();
        Check.due("write(0)", x.write(0), true);
        Check.due("write: zeros between", x.write(0x61003D0000310000L), true);
        Check.due("write: a=1", Check.answer(x::compile), Check.answer(Check.compiled("a=1")::compile));
        Check.due("write: three characters", x.place(), 3);
        Check.due("write: 31 is no character", x.write(31), false);
        Check.due("write: 127 is no character", x.write(127), false);
        Check.due("write: 128 is no character", x.write(128), false);
        Check.due("write: 255 is no character", x.write(-1), false);
        Check.due("write: one wrong of eight", x.write(0x2020202020202009L), false);
        Check.due("write: the first wrong", x.write(0x8020202020202020L), false);
        Check.answer(x::compile);
        Check.due("write: refused ones leave the text", x.place(), 3);
        Check.due("write: 32 and 126 are characters", x.write(0x207E), true);
        Check.due("write: ~ is no sign", Check.answer(x::compile), Check.ARGUMENT);
        Check.due("write: ~ is told", x.place(), 4);
        full();
    }

    private static void full() {
        ColumnDecider x = new ColumnDecider();
        for (int i = 0; i < 31; i++) {
            Check.due("write of spaces", x.write(0x2020202020202020L), true);
        }
        Check.due("write to 251", x.write(Check.eight("a=1")), true);
        Check.due("write to 259", x.write(0x2020202020202020L), false);
        Check.due("write to 257", x.write(Check.eight("&a=1=>")), false);
        Check.due("write to 256", x.write(Check.eight("&a = 1")), false);
        Check.due("write to 256", x.write(Check.eight("&a=1 ")), true);
        Check.due("write to 257", x.write(32), false);
        Check.due("write of nothing to 256", x.write(0), true);
        Check.due("full: compile()", Check.answer(x::compile) > 0, true);
        Check.due("full: place()", x.place(), 256);
    }

    private static void clear() {
        ColumnDecider x = Check.compiled("a=1&b=2");
        x.keep(0);
        x.value(3, 7);
        int formed = x.formed();
        x.clear();
        Check.due("clear: the machine stays", x.variables(), 3);
        Check.due("clear: place() stays", x.place(), 7);
        Check.due("clear: formed() stays", x.formed(), formed);
        Check.due("clear: what is kept stays", x.same(0), 1);
        Check.due("clear: values stay", x.valueOf(3), 7);
        Check.due("clear: no text", Check.answer(x::compile), Check.ARGUMENT);
        Check.due("clear: place() of no text", x.place(), 0);
    }

    private static void states(String text, long states) {
        ColumnDecider x = new ColumnDecider();
        Check.due("compile of \"" + text + "\"", Check.compile(x, text), states);
        Check.due("place of \"" + text + "\"", x.place(), text.length());
    }

    private static void compile() {
        states("1=1", 2);
        states("1=2", 1);
        states("  0  :  7 ", 2);
        states("a<0", 2);
        states("a>=0", 2);
        states("a=0", 3);
        states("a:2", 3);
        states("2a:2", 2);
        states("Ea.a=5", 2);
        states("Aa.a=5", 1);
        states("Aa.Eb.a=b", 2);
        states("a=a", 2);
        ColumnDecider x = Check.compiled("a=1");
        Check.due("compile: a fault", Check.compile(x, "a="), Check.ARGUMENT);
        Check.due("compile: no machine then", x.variables(), -1);
        Check.compile(x, "a=1");
        Check.due("compile: too large", Check.compile(x, "a+b+c+d+e=0"), Check.STATE);
        Check.due("compile: no machine then", x.variables(), -1);
        Check.due("compile: no machine then", x.keep(0), false);
        Check.due("compile: a fault behind what is too large", Check.compile(x, "a+b+c+d+e=0&"), Check.ARGUMENT);
        deepest();
    }

    /** As many machines wait at a time as can: two for each thing open and for the whole. */
    private static void deepest() {
        StringBuilder text = new StringBuilder();
        for (int i = 0; i < 20; i++) {
            text.append("a=1|b=1&(");
        }
        text.append("a=1|b=1&c<0");
        for (int i = 0; i < 20; i++) {
            text.append(')');
        }
        ColumnDecider x = Check.compiled(text.toString());
        ColumnDecider y = Check.compiled("a=1|b=1&c<0");
        for (int s = 0; s < 20; s++) {
            Check.due("deepest: accepts", x.accepts(s), y.accepts(s));
            for (int letter = 0; letter < 8; letter++) {
                Check.due("deepest: next", x.next(s, letter), y.next(s, letter));
            }
        }
    }

    private static void large(String text) {
        ColumnDecider x = new ColumnDecider();
        Check.due("compile of \"" + text + "\"", Check.compile(x, text), Check.STATE);
        Check.due("place of \"" + text + "\"", x.place(), text.length());
        Check.due("formed of \"" + text + "\"", x.formed(), 0);
        Check.due("variables of \"" + text + "\"", x.variables(), -1);
    }

    private static void tooLarge() {
        states("17a+1:425", 1);
        large("3a+1:150");
        states("a:93", 95);
        states("13a-55b<=0-1", 96);
        states("!13a-55b<=0-1", 96);
        states("91a-1b<=0-2", 96);
        large("!91a-1b<=0-2");
        large("Ea.91a-1b<=0-2&3a+1:150");
        large("9999a=b");
        large("a=b & c=d & e=1");
        large("a+b+c+d+e=0");
        large("Ea.(a=b & c=d & e=1)");
        states("a+b+c+d+e=e", Check.compile(new ColumnDecider(), "a+b+c+d=0"));
        states("(Ee.a=b & e=1) & c=d", Check.compile(new ColumnDecider(), "a=b & c=d"));
    }

    private static void place() {
        ColumnDecider x = Check.compiled("a = 1 ");
        Check.due("place: of a formula", x.place(), 6);
        x.write(Check.eight("%"));
        Check.due("place: of the latest compile()", x.place(), 6);
        Check.answer(x::compile);
        Check.due("place: of a fault", x.place(), 6);
        Check.compile(x, "a=1&?");
        Check.due("place: of a fault", x.place(), 4);
        Check.compile(x, "a=1");
        x.keep(0);
        x.join(0, 1);
        Check.due("place: not of join()", x.place(), 3);
    }

    private static void formed() {
        ColumnDecider x = new ColumnDecider();
        formed(x, "1:1", 2);
        formed(x, "a=0", 3);
        formed(x, "a!=0", 6);
        formed(x, "a<0", 2);
        formed(x, "!a<0", 5);
        formed(x, "Eb.a<0", 2);
        formed(x, "Ab.a<0", 8);
        formed(x, "Ea.a<0", 4);
        // (0, 0) come to again accepts, so it is a state beside the first.
        formed(x, "1=2=>1=2", 6);
        formed(x, "1=2|1=2", 5);
        formed(x, "a<0&a<0", 6);
        formed(x, "a<0=>a<0", 7);
        Check.due("formed: a kept one", x.keep(0), true);
        Check.compile(x, "a<0");
        x.keep(1);
        Check.answer(() -> x.join(1, 2));
        Check.due("formed: of join()", x.formed(), 3);
        Check.answer(() -> x.join(1, 5));
        Check.due("formed: of a join() that threw", x.formed(), 0);
        formed(x, "a<0", 2);
        Check.compile(x, "a<");
        Check.due("formed: of a fault", x.formed(), 0);
    }

    private static void formed(ColumnDecider x, String text, int due) {
        Check.compile(x, text);
        Check.due("formed of \"" + text + "\"", x.formed(), due);
    }

    private static void variables() {
        Check.due("variables: a and h", Check.compiled("h=a").variables(), 129);
        Check.due("variables: none", Check.compiled("1=2").variables(), 0);
        Check.due("variables: 0 times", Check.compiled("0a+b=c-c").variables(), 2);
        Check.due("variables: quantified", Check.compiled("Eb.a=b+c").variables(), 5);
        Check.due("variables: nothing asks for it", Check.compiled("a=1&(b=1|b!=1)").variables(), 3);
        Check.due("variables: one outside too", Check.compiled("b=1&Eb.a=b").variables(), 3);
        Check.due("variables: four", Check.compiled("a=h&c=e").variables(), 149);
    }

    private static void next() {
        ColumnDecider x = Check.compiled("b<0&h=h");
        int[][] due = {{0, 1}, {0, 1}};
        for (int s = 0; s < 2; s++) {
            for (int letter = 0; letter < 2; letter++) {
                Check.due("next(" + s + ", " + letter + ")", x.next(s, letter), due[s][letter]);
            }
        }
        Check.due("next: no letter", x.next(0, 2), -1);
        Check.due("next: no letter", x.next(0, -1), -1);
        Check.due("next: no state", x.next(2, 0), -1);
        Check.due("next: no state", x.next(-1, 0), -1);
        Check.due("next: far off", x.next(Integer.MAX_VALUE, Integer.MIN_VALUE), -1);
        x = Check.compiled("1=1");
        Check.due("next: without variables", x.next(0, 0), 1);
        Check.due("next: without variables", x.next(1, 0), 1);
        Check.due("next: without variables", x.next(0, 1), -1);
        // The letter's bit 0 is the lower variable's, whatever the order in the text.
        x = Check.compiled("d=1&b=0");
        Check.due("next: bits in order", x.next(0, 2) != x.next(0, 1), true);
        Check.due("next: bits in order", x.next(x.next(0, 2), 0) > 0, true);
        Check.due("next: bits in order", x.accepts(x.next(x.next(0, 2), 0)), 1);
        Check.due("next: bits in order", x.accepts(x.next(x.next(0, 1), 0)), 0);
    }

    private static void accepts() {
        ColumnDecider x = Check.compiled("a<0");
        Check.due("accepts(0)", x.accepts(0), 0);
        Check.due("accepts(1)", x.accepts(1), 1);
        Check.due("accepts(2)", x.accepts(2), -1);
        Check.due("accepts(-1)", x.accepts(-1), -1);
        x = Check.compiled("1=1");
        Check.due("accepts(0) of what is true", x.accepts(0), 0);
        Check.due("accepts(1) of what is true", x.accepts(1), 1);
    }

    private static void value() {
        ColumnDecider x = new ColumnDecider();
        Check.due("value(-1)", x.value(-1, 5), false);
        Check.due("value(8)", x.value(8, 5), false);
        for (int v = 0; v < 8; v++) {
            Check.due("value(" + v + ")", x.value(v, v * 1000000007L - 3), true);
        }
        for (int v = 0; v < 8; v++) {
            Check.due("valueOf(" + v + ")", x.valueOf(v), v * 1000000007L - 3);
        }
    }

    private static void holds() {
        ColumnDecider x = Check.compiled("a = b + 1");
        holds(x, 5, 4, true);
        holds(x, 5, 5, false);
        holds(x, 0, -1, true);
        holds(x, Long.MAX_VALUE, Long.MAX_VALUE - 1, true);
        // Whole numbers do not wrap around.
        holds(x, Long.MIN_VALUE, Long.MAX_VALUE, false);
        x = Check.compiled("a < b");
        holds(x, Long.MIN_VALUE, Long.MAX_VALUE, true);
        holds(x, Long.MAX_VALUE, Long.MIN_VALUE, false);
        holds(x, -1, -1, false);
        x = Check.compiled("a - b : 7");
        holds(x, Long.MIN_VALUE, Long.MIN_VALUE + 49, true);
        holds(x, Long.MAX_VALUE, Long.MIN_VALUE, (Long.remainderUnsigned(-1, 7)) == 0);
        x = Check.compiled("Ea.a=b");
        holds(x, 3, 9, true);
    }

    private static void holds(ColumnDecider x, long a, long b, boolean due) {
        x.value(0, a);
        x.value(1, b);
        Check.due("holds() with " + a + " and " + b, x.holds(), due);
        Check.due("holds() leaves the values", x.valueOf(0), a);
    }

    private static void count() {
        ColumnDecider x = Check.compiled("a<b");
        for (int n = 1; n <= 12; n++) {
            long all = 1L << n;
            Check.due("count(" + n + ")", x.count(n), all * (all - 1) / 2);
        }
        Check.due("count(0)", Check.answer(() -> x.count(0)), Check.ARGUMENT);
        Check.due("count(13)", Check.answer(() -> x.count(13)), Check.ARGUMENT);
        Check.due("count(-1)", Check.answer(() -> x.count(-1)), Check.ARGUMENT);
        Check.compile(x, "");
        Check.due("count(13), no machine", Check.answer(() -> x.count(13)), Check.ARGUMENT);
        Check.due("count(12), no machine", Check.answer(() -> x.count(12)), Check.STATE);
        ColumnDecider all = Check.compiled("a+b+c+d=0 | a+b+c+d!=0");
        Check.due("count(12) of all", all.count(12), 1L << 48);
        Check.due("count(7) of nothing", Check.compiled("a!=a+b-b").count(7), 0);
        Check.due("count(12) without variables", Check.compiled("1=1").count(12), 1);
        Check.due("count(3) of -4 .. 3", Check.compiled("a>=0-2").count(3), 6);
    }

    private static void find(String text, int columns, long... due) {
        ColumnDecider x = Check.compiled(text);
        for (int v = 0; v < 8; v++) {
            x.value(v, 100 + v);
        }
        Check.due("find() of \"" + text + "\"", x.find(), columns);
        for (int v = 0; v < 8; v++) {
            long want = v < due.length ? due[v] : 100 + v;
            Check.due("find() of \"" + text + "\": valueOf(" + v + ")", x.valueOf(v), want);
        }
    }

    private static void find() {
        find("a=5", 4, 5);
        find("a=0", 1, 0);
        find("a<0", 1, -1);
        find("a=0-8", 4, -8);
        find("a>0", 2, 1);
        find("a=0-1", 1, -1);
        find("a+b=3", 3, 3, 0);
        find("1=1", 1);
        find("1=2", 0);
        find("a<a+b-b", 0);
        find("b=3", 3, 100, 3);
        find("a>1000 & a:7", 11, firstMultipleOf7());
        find("a=1023 | a=0-1024", 11, -1024);
        find("!(a=0&b=0)&a>=0&b>=0", 2, 1, 0);
        find("Eb.a=3b&b>3", 5, 12);
    }

    /** The first one, in the order of letters, of those above 1000 with 11 columns. */
    private static int firstMultipleOf7() {
        int first = 1001;
        for (int x = 1001; x < 1024; x += 7) {
            first = before(x, first) ? x : first;
        }
        return first;
    }

    /** Whether the lowest bits, which are read first, stand first in the order of letters. */
    private static boolean before(int x, int y) {
        return Integer.compareUnsigned(Integer.reverse(x), Integer.reverse(y)) < 0;
    }

    private static void findLong() {
        ColumnDecider x = Check.compiled(power(12, "a=1"));
        Check.due("find() of 2 to the 60th", x.find(), 62);
        Check.due("find() of 2 to the 60th: a", x.valueOf(0), 1L << 60);
        Check.due("find() of 2 to the 60th holds", x.holds(), true);
        x = Check.compiled(power(12, "a=0-8"));
        Check.due("find() of -2 to the 63rd", x.find(), 64);
        Check.due("find() of -2 to the 63rd: a", x.valueOf(0), Long.MIN_VALUE);
        Check.due("find() of -2 to the 63rd holds", x.holds(), true);
        x = Check.compiled(power(14, "a=1"));
        x.value(1, 77);
        Check.due("find() of 2 to the 70th", x.find(), 72);
        Check.due("find() of 2 to the 70th: the lowest 64 bits", x.valueOf(0), 0);
        Check.due("find() of 2 to the 70th: b stays", x.valueOf(1), 77);
    }

    /** That a is 32 to the n-th (n even) times what the last a is. */
    private static String power(int n, String last) {
        StringBuilder text = new StringBuilder();
        for (int i = 0; i < n; i += 2) {
            text.append("Eb.a=32b&Ea.b=32a&");
        }
        return text.append(last).toString();
    }

    private static void valueOf() {
        ColumnDecider x = new ColumnDecider();
        x.value(0, 3);
        x.value(7, Long.MIN_VALUE);
        Check.due("valueOf(0)", x.valueOf(0), 3);
        Check.due("valueOf(7)", x.valueOf(7), Long.MIN_VALUE);
        Check.due("valueOf(8)", x.valueOf(8), 0);
        Check.due("valueOf(-1)", x.valueOf(-1), 0);
    }

    private static void keep() {
        ColumnDecider x = Check.compiled("a=3");
        Check.due("keep(-1)", x.keep(-1), false);
        Check.due("keep(4)", x.keep(4), false);
        for (int k = 0; k < 4; k++) {
            Check.due("keep(" + k + ")", x.keep(k), true);
        }
        Check.compile(x, "a=4");
        Check.due("keep: the kept one stays", x.same(0), 0);
        Check.due("keep: over it", x.keep(0), true);
        Check.due("keep: over it", x.same(0), 1);
        Check.due("keep: the others stay", x.same(1), 0);
        Check.compile(x, "a=");
        Check.due("keep: no machine", x.keep(0), false);
        Check.compile(x, "a=4");
        Check.due("keep: no machine leaves what is kept", x.same(0), 1);
        x.join(1, 1);
        Check.due("keep: join leaves what is kept", x.same(0), 0);
    }

    private static void same() {
        ColumnDecider x = Check.compiled("a:6");
        x.keep(2);
        Check.due("same: nothing kept there", x.same(1), -1);
        Check.due("same: no place", x.same(-1), -1);
        Check.due("same: no place", x.same(4), -1);
        same(x, "a:2&a:3", 1);
        same(x, "Eb.a=6b", 1);
        same(x, "!!0-a:6", 1);
        same(x, "a:5", 0);
        same(x, "b:6", 0);
        same(x, "a:6&b=b", 1);
        same(x, "a:6&(b=0|b!=0)", 0);
        same(x, "!(a:6)", 0);
        Check.compile(x, "1=1");
        x.keep(0);
        same(x, "1=2", 0);
        Check.due("same: states", x.same(0), 0);
        Check.compile(x, "!");
        Check.due("same: no machine", x.same(2), -1);
    }

    private static void same(ColumnDecider x, String text, int due) {
        Check.compile(x, text);
        Check.due("same(2) of \"" + text + "\"", x.same(2), due);
    }

    private static void join() {
        ColumnDecider x = Check.compiled("b<5");
        x.keep(0);
        String[] signs = {"&", "|", "=>"};
        for (int how = 0; how < 3; how++) {
            int by = how;
            long due = Check.compile(x, "a>b" + signs[how] + "b<5");
            x.keep(3);
            Check.compile(x, "a>b");
            Check.due("join(0, " + how + ")", Check.answer(() -> x.join(0, by)), due);
            Check.due("join(0, " + how + ") is " + signs[how], x.same(3), 1);
        }
        Check.compile(x, "a>b");
        x.keep(1);
        Check.due("join: no how", Check.answer(() -> x.join(0, 3)), Check.ARGUMENT);
        Check.due("join: no how", Check.answer(() -> x.join(0, -1)), Check.ARGUMENT);
        Check.due("join: no place", Check.answer(() -> x.join(4, 0)), Check.ARGUMENT);
        Check.due("join: no place", Check.answer(() -> x.join(-1, 0)), Check.ARGUMENT);
        Check.due("join: nothing kept", Check.answer(() -> x.join(2, 0)), Check.ARGUMENT);
        Check.due("join: the machine stays", x.same(1), 1);
        joinTooLarge(x);
        Check.compile(x, "(");
        Check.due("join: no machine", Check.answer(() -> x.join(0, 0)), Check.STATE);
        Check.due("join: no machine and no how", Check.answer(() -> x.join(0, 3)), Check.ARGUMENT);
        Check.due("join: no machine then", x.variables(), -1);
    }

    private static void joinTooLarge(ColumnDecider x) {
        Check.compile(x, "c+d+e=0");
        x.keep(2);
        Check.compile(x, "a>b");
        Check.due("join: too many variables", Check.answer(() -> x.join(2, 0)), Check.STATE);
        Check.due("join: the machine stays", x.same(1), 1);
        Check.due("join: formed() then", x.formed(), 0);
        Check.compile(x, "b:73");
        x.keep(2);
        Check.compile(x, "a:73");
        x.keep(1);
        Check.due("join: too many states", Check.answer(() -> x.join(2, 0)), Check.STATE);
        Check.due("join: the machine stays", x.same(1), 1);
        Check.compile(x, "a:11");
        x.keep(2);
        Check.compile(x, "a:13");
        x.keep(1);
        Check.due("join: a machine too large", Check.answer(() -> x.join(2, 1)), Check.STATE);
        Check.due("join: the machine stays", x.same(1), 1);
        Check.due("join: place() is of compile()", x.place(), 4);
    }
}
