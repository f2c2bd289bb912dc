/**
 * Promises 1, 4 and 6 to 17 and what 'Terms' says of machines: each sentence that names a boundary,
 * one by one, in the document's order.
 */
public final class MachineBoundariesTest {
    private static final int[] FAR = {Integer.MIN_VALUE, -1000, -2, -1};
    private static final String[] SIGNS = {"&", "|", "=>"};

    // Two parts for each of &, |, =>, whose pair has just so many rough states formed, or states.
    private static final String[][] ROUGH_1000 = {
        {"b<0&a-18b<=2", "50a-7b>0"}, {"b>=3|5a-27b>1", "31a-32b<=11"}, {"b<0&4a-19b<=1", "47a-13b<=9"}};
    private static final String[][] ROUGH_1001 = {
        {"b<0&a-24b<=2", "35a-18b>16"}, {"b>=4|7a-15b>0", "52a-9b<=0"}, {"b<4&9a-19b<=1", "43a-14b<=4"}};
    private static final String[][] STATES_96 = {
        {"a-8b<=3", "16a-34b<=16"}, {"a-3b>19", "9a-39b>18"}, {"6a-8b<=8", "17a-22b>9"}};
    private static final String[][] STATES_97 = {
        {"5a-12b>6", "7a-10b>8"}, {"3a-5b>6", "33a-54b>16"}, {"2a-10b<=0", "11a-36b>8"}};

    public static void main(String[] args) {
        callsUpTo512();
        columnsMayBeLonger();
        withoutVariables();
        state0NeverAccepts();
        numberedAsComeTo();
        equalRough();
        orderRough();
        dividedRough();
        noVariablesWith0();
        pairRough();
        deniedRough();
        existRough();
        allRough();
        comparisonTooLarge();
        pairTooLarge();
        deniedTooLarge();
        existTooLarge();
        allTooLarge();
        partTooLarge();
        noMachineWhenTooLarge();
        newObject();
        formedBefore();
        formedOtherwise();
        formedByJoin();
        variables();
        nextNone();
        acceptsNone();
        value();
        holds64Columns();
        holdsNoMachine();
        countEdges();
        countNoMachine();
        findNothing();
        findEdges();
        findOthersStay();
        findManyColumns();
        findNoMachine();
        valueOf();
        keepPlaces();
        keepNoMachine();
        sameNone();
        sameAll();
        joinArguments();
        joinNoMachine();
        joinWithin();
        joinTooLarge();
        joinBecomes();
        Check.end();
    }

    /** A formula's states and all its rough states formed. */
    private static void made(String text, long states, int formed) {
        ColumnDecider x = new ColumnDecider();
        Check.due("compile of \"" + text + "\"", Check.compile(x, text), states);
        Check.due("formed of \"" + text + "\"", x.formed(), formed);
        Check.due("place of \"" + text + "\"", x.place(), text.length());
    }

    private static void fine(String text) {
        ColumnDecider x = new ColumnDecider();
        Check.due("compile of \"" + text + "\" goes well", Check.compile(x, text) > 0, true);
    }

    private static void large(String text) {
        ColumnDecider x = new ColumnDecider();
        Check.due("compile of \"" + text + "\"", Check.compile(x, text), Check.STATE);
        Check.due("place of \"" + text + "\"", x.place(), text.length());
        Check.due("formed of \"" + text + "\"", x.formed(), 0);
        Check.due("variables of \"" + text + "\"", x.variables(), -1);
    }

    private static ColumnDecider noMachine() {
        ColumnDecider x = Check.compiled("a=b");
        x.keep(0);
        Check.due("compile of a fault", Check.compile(x, "a=b)"), Check.ARGUMENT);
        return x;
    }

    private static long holds(ColumnDecider x) {
        return Check.answer(() -> x.holds() ? 1 : 0);
    }

    private static void callsUpTo512() {
        Check.sentence("What it is: an object is used for at most 512 calls");
        ColumnDecider x = new ColumnDecider();
        x.write(Check.eight("Eb.b>=0&"));
        x.write(Check.eight("14a+3b=5"));
        x.write(Check.eight("7c-1"));
        for (int call = 4; call <= 511; call += 4) {
            Check.due("call " + call + ": compile()", Check.answer(x::compile), 96);
            Check.due("call " + (call + 1) + ": keep()", x.keep(call / 4 % 4), true);
            Check.due("call " + (call + 2) + ": same()", x.same(call / 4 % 4), 1);
            int how = call / 4 % 2;
            Check.due("call " + (call + 3) + ": join()", Check.answer(() -> x.join(3, how)), call < 12 ? Check.ARGUMENT : 96);
        }
        Check.due("call 512: formed()", x.formed(), 96);
    }

    private static void columnsMayBeLonger() {
        Check.sentence("Terms: they may be longer than need be (at least one column)");
        int[] numbers = {0, -1, 1, -2, 7, -8, 8, -9, 2047, -2048};
        int[] columns = {1, 1, 2, 2, 4, 4, 5, 5, 12, 12};
        for (int i = 0; i < numbers.length; i++) {
            String text = "a=" + numbers[i];
            ColumnDecider x = Check.compiled(text);
            Check.due("find() of " + text, x.find(), columns[i]);
            for (int n = 1; n <= 12; n++) {
                Check.due("count(" + n + ") of " + text, x.count(n), n < columns[i] ? 0 : 1);
            }
        }
    }

    private static void withoutVariables() {
        Check.sentence("Terms: without variables the only letter is 0");
        ColumnDecider x = Check.compiled("1=1");
        Check.due("next(0, 0)", x.next(0, 0), 1);
        Check.due("next(1, 0)", x.next(1, 0), 1);
        Check.due("next(0, 1)", x.next(0, 1), -1);
        Check.due("next(1, 1)", x.next(1, 1), -1);
        Check.due("variables()", x.variables(), 0);
        x = Check.compiled("1=2");
        Check.due("next(0, 0) of one state", x.next(0, 0), 0);
        Check.due("next(0, 1) of one state", x.next(0, 1), -1);
    }

    private static void state0NeverAccepts() {
        Check.sentence("Terms: State 0 never accepts");
        for (String text : new String[] {"1=1", "a=a", "a>=0|a<0", "!1=2", "Ea.a=a", "Aa.a=a", "!!a=0", "a<=0", "0:1"}) {
            Check.due("accepts(0) of \"" + text + "\"", Check.compiled(text).accepts(0), 0);
        }
    }

    private static void numberedAsComeTo() {
        Check.sentence("Terms: numbered as they are first come to, going over the states in order, and their letters in order");
        for (String text : new String[] {"a+b=3", "a-93b=0", "3a-5b+2c<=7", "a:93", "Eb.a=3b+1", "a=5|b=6=>c:3", "!(a<b&c<a)"}) {
            ColumnDecider x = new ColumnDecider();
            long states = Check.compile(x, text);
            int letters = 1 << Integer.bitCount(x.variables());
            int come = 1;
            for (int s = 0; s < states; s++) {
                for (int letter = 0; letter < letters; letter++) {
                    int to = x.next(s, letter);
                    Check.due("next(" + s + ", " + letter + ") of \"" + text + "\" is at most " + come, to <= come, true);
                    come += to == come ? 1 : 0;
                }
            }
            Check.due("states come to of \"" + text + "\"", come, states);
        }
    }

    private static void equalRough() {
        Check.sentence("Terms: for =, s - g is halved, marked if s + g is 0; if s - g is odd, it is LOST");
        made("1=1", 2, 2);
        made("1=2", 1, 2);
        made("0=2", 1, 3);
        made("a=0", 3, 3);
        made("a=-1", 3, 3);
        made("a=1", 4, 4);
        made("2a=1", 1, 2);
        Check.sentence("Terms: != is ! of =");
        made("1!=1", 1, 4);
        made("a!=0", 2, 6);
    }

    private static void orderRough() {
        Check.sentence("Terms: for <=, s - g halved, rounded down, marked if s + g is 0 or more");
        made("a<=0", 4, 4);
        made("0<=0", 2, 2);
        made("1<=0", 1, 1);
        made("2<=0", 1, 2);
        Check.sentence("Terms: left < right is left + 1 <= right, and > and >= with both sides changed");
        made("a<0", 2, 2);
        made("a>=0", 2, 2);
        made("a>0", 3, 3);
        made("0>a", 2, 2);
        made("0>=a", 4, 4);
        made("0<a", 3, 3);
    }

    private static void dividedRough() {
        Check.sentence("Terms: for : n, from (c by n, 1 by n) on (by n: the rest, 0 .. n - 1)");
        made("a:1", 2, 2);
        made("1:1", 2, 2);
        made("a:2", 3, 3);
        made("3:2", 1, 2);
        made("-1:3", 1, 2);
        made("-3:3", 2, 3);
        made("0:2", 2, 2);
    }

    private static void noVariablesWith0() {
        Check.sentence("Terms: those with a = 0 are no variables of it");
        Check.due("variables of 0a=b", Check.compiled("0a=b").variables(), 2);
        Check.due("variables of a-a=b", Check.compiled("a-a=b").variables(), 2);
        Check.due("variables of a=a", Check.compiled("a=a").variables(), 0);
        Check.due("variables of 2a+b=2a", Check.compiled("2a+b=2a").variables(), 2);
        Check.due("variables of a-a:2", Check.compiled("a-a:2").variables(), 0);
        // It has a number, though it never matters.
        Check.due("variables of 2a:2", Check.compiled("2a:2").variables(), 1);
    }

    private static void pairRough() {
        Check.sentence("Terms: the first pair accepts nothing; come to again it is another state, if it accepts then");
        made("1=2=>1=2", 2, 6);
        made("1=2|1=2", 1, 5);
        made("1=2&1=2", 1, 5);
        made("1=1=>1=2", 1, 6);
        made("a<0=>a<0", 2, 7);
        made("a<0&a<0", 2, 6);
        Check.sentence("Terms: F & G, F | G, F => G have the variables of both");
        Check.due("variables of both", Check.compiled("h=1&a=1").variables(), 129);
        Check.due("variables of one", Check.compiled("c=1|1=1").variables(), 4);
    }

    private static void deniedRough() {
        Check.sentence("Terms: ! F: the rough states are those of F, and one more, the first");
        made("!1=1", 1, 4);
        made("!a=0", 2, 6);
        Check.sentence("Terms: (state 0 of F accepts, then, if it is come to again)");
        made("!1=2", 2, 4);
        made("!a<0", 2, 5);
        made("!!a<0", 2, 8);
    }

    private static void existRough() {
        Check.sentence("Terms: E v F: from {0} without mark on; marked if one that accepts is in it");
        made("Ea.a<0", 2, 4);
        made("Ea.1=2&a=0", 1, 9);
        Check.sentence("Terms: or comes to be in it by the same letter, again and again");
        made("Ea.a=0", 2, 5);
        Check.due("one column is enough", Check.compiled("Eb.b=a+1000").count(1), 2);
        Check.due("one column is enough", Check.compiled("Eb.b=50a").find(), 1);
        Check.due("one column is enough", Check.compiled("Eb.a=2b&b<0").count(1), 0);
        Check.due("two columns are needed", Check.compiled("Eb.a=2b&b<0").count(2), 1);
        Check.sentence("Terms: If v isn't one, E v F is as F");
        made("Eb.a=0", 3, 3);
        made("Eb.0b=a", 3, 3);
        made("Ea.Ea.a<0", 2, 4);
    }

    private static void allRough() {
        Check.sentence("Terms: A v F is ! E v ! F");
        made("Ab.a<0", 2, 8);
        made("Aa.1=2", 1, 6);
        made("Aa.a<0", 1, 9);
        made("Aa.a=a", 2, 6);
    }

    private static void comparisonTooLarge() {
        Check.sentence("Terms: TOO LARGE if a machine would have more than 4 variables");
        for (String asked : new String[] {"=0", "!=0", "<0", ">0", "<=0", ">=0", ":2"}) {
            fine("a+b+c+d" + asked);
            fine("e+f+g+h" + asked);
            large("a+b+c+d+e" + asked);
            large("a+b+c+d+e+f+g+h" + asked);
            fine("a+b+c+d+e-e" + asked);
            fine("a+b+c+d+0h" + asked);
        }
        Check.sentence("Terms: a rough one more than 1,000 states formed");
        made("1:4001", 1, 1000);
        large("0:4001");
        made("0:7993", 2, 1000);
        large("1:6007");
        made("17a+1:425", 1, 1000);
        large("a:89");
        made("983a<=148", 4, 1000);
        large("984a<=148");
        made("1015a-1316b=127", 1, 1000);
        large("505a-745b=1");
        Check.sentence("Terms: or a machine more than 96 states");
        made("a-93b=0", 96, 96);
        large("a-94b=0");
        made("18a-41b<=2", 96, 96);
        large("a-91b<=0");
        made("166a-20b=46", 96, 191);
        large("128a-62b=22");
        // A search found none by : with 96 or 97 states and few enough rough ones.
        made("a:93", 95, 950);
        large("a:127");
    }

    private static void pairs(String[][] parts, int states, boolean fits) {
        for (int how = 0; how < SIGNS.length; how++) {
            fine(parts[how][0]);
            fine(parts[how][1]);
            String text = "(" + parts[how][0] + ")" + SIGNS[how] + parts[how][1];
            if (fits) {
                ColumnDecider x = Check.compiled(text);
                Check.due("the last state of \"" + text + "\"", x.accepts(states - 1) >= 0, true);
                Check.due("no more states of \"" + text + "\"", x.accepts(states), -1);
            } else {
                large(text);
            }
        }
    }

    private static void pairTooLarge() {
        Check.sentence("Terms: TOO LARGE: a pair of more than 4 variables");
        for (String sign : SIGNS) {
            fine("a=b" + sign + "c=d");
            fine("a+b+c=d" + sign + "d=a");
            large("a+b+c=d" + sign + "e=a");
            large("a=b" + sign + "c+d=e");
            large("1=2&a+b+c=d" + sign + "h=0");
        }
        Check.sentence("Terms: TOO LARGE: a pair of more than 1,000 rough states formed");
        for (int how = 0; how < SIGNS.length; how++) {
            fine("(" + ROUGH_1000[how][0] + ")" + SIGNS[how] + ROUGH_1000[how][1]);
            fine(ROUGH_1001[how][0]);
            fine(ROUGH_1001[how][1]);
            large("(" + ROUGH_1001[how][0] + ")" + SIGNS[how] + ROUGH_1001[how][1]);
        }
        Check.sentence("Terms: TOO LARGE: a pair of more than 96 states");
        pairs(STATES_96, 96, true);
        pairs(STATES_97, 97, false);
    }

    private static void deniedTooLarge() {
        Check.sentence("Terms: TOO LARGE: ! of 96 states, with one more or not");
        made("13a-55b<=-1", 96, 96);
        made("!13a-55b<=-1", 96, 193);
        made("91a-b<=-2", 96, 96);
        large("!91a-b<=-2");
        large("!!91a-b<=-2");
    }

    private static void existTooLarge() {
        Check.sentence("Terms: TOO LARGE: E v of more than 1,000 rough states formed");
        long before = Check.compiled("b:25&a-b>0").formed();
        made("Eb.b:25&a-b>0", 2, (int) before + 1000);
        fine("b:25&2a-b>0");
        large("Eb.b:25&2a-b>0");
        Check.sentence("Terms: TOO LARGE: E v of more than 96 states");
        ColumnDecider x = new ColumnDecider();
        Check.due("96 states", Check.compile(x, "Eb.b>=0&14a+3b=57c-1"), 96);
        fine("b>=0&13a+3b=59c-3");
        large("Eb.b>=0&13a+3b=59c-3");
        Check.sentence("Terms: E v: its other variables");
        fine("(Eb.a+b+c=d)&e=a");
        large("(a+b+c=d)&e=a");
    }

    private static void allTooLarge() {
        Check.sentence("Terms: TOO LARGE: A v by the machines of ! that it is made of");
        fine("Eb.91a-b<=-2");
        large("Ab.91a-b<=-2");
        large("Ac.91a-b<=-2");
        fine("Ec.91a-b<=-2");
        fine("Ac.13a-55b<=-1");
        fine("Eb.!(b:25&a-b>0)");
        made("Ab.!(b:25&a-b>0)", 1, Check.compiled("Eb.!!(b:25&a-b>0)").formed() + 2);
        large("Ab.!(b:25&2a-b>0)");
    }

    private static void partTooLarge() {
        Check.sentence("Terms: the first that comes, in the order in which machines are made (parts before the whole)");
        large("Ea.a+b+c+d+e=0");
        large("Ea.(a=b & c=d & e=1)");
        fine("(Ea.a=b) & c=d & e=1");
        large("1=2&a-94b=0");
        large("a-94b=0&1=2");
        large("1=1|0:4001");
        large("0:4001=>1=1");
        large("!0:4001");
        large("Ea.a-94b=0");
        large("Ea.Eb.a-94b=0");
        fine("1:4001&1:4001&1:4001&1:4001");
        made("1:4001&1:4001", 1, 2001);
    }

    private static void noMachineWhenTooLarge() {
        Check.sentence("Promise 4: IllegalStateException: TOO LARGE; with either there is no machine");
        ColumnDecider x = Check.compiled("a=b");
        x.keep(0);
        x.value(0, 9);
        Check.due("compile()", Check.compile(x, "a-94b=0"), Check.STATE);
        Check.due("variables()", x.variables(), -1);
        Check.due("next(0, 0)", x.next(0, 0), -1);
        Check.due("accepts(0)", x.accepts(0), -1);
        Check.due("holds()", holds(x), Check.STATE);
        Check.due("count(1)", Check.answer(() -> x.count(1)), Check.STATE);
        Check.due("find()", Check.answer(x::find), Check.STATE);
        Check.due("keep(0)", x.keep(0), false);
        Check.due("same(0)", x.same(0), -1);
        Check.due("join(0, 0)", Check.answer(() -> x.join(0, 0)), Check.STATE);
        Check.due("valueOf(0)", x.valueOf(0), 9);
        Check.due("a compile() that goes well then", Check.compile(x, "a=b") > 0, true);
        Check.due("what is kept stays", x.same(0), 1);
    }

    private static void newObject() {
        Check.sentence("Promise 1: No text, no machine; nothing kept, all VALUES 0");
        ColumnDecider x = new ColumnDecider();
        Check.due("variables()", x.variables(), -1);
        for (int k = 0; k < 4; k++) {
            int place = k;
            Check.due("same(" + k + ")", x.same(k), -1);
            Check.due("join(" + k + ", 0)", Check.answer(() -> x.join(place, 0)), Check.ARGUMENT);
        }
        for (int v = 0; v < 8; v++) {
            Check.due("valueOf(" + v + ")", x.valueOf(v), 0);
        }
        Check.due("compile()", Check.answer(x::compile), Check.ARGUMENT);
        Check.due("place()", x.place(), 0);
        ColumnDecider other = Check.compiled("a=1");
        other.keep(0);
        other.value(0, 1);
        ColumnDecider y = new ColumnDecider();
        Check.due("variables() beside another", y.variables(), -1);
        Check.due("valueOf(0) beside another", y.valueOf(0), 0);
        Check.compile(y, "a=1");
        Check.due("same(0) beside another", y.same(0), -1);
    }

    private static void formedBefore() {
        Check.sentence("Promise 6: 0 before");
        ColumnDecider x = new ColumnDecider();
        Check.due("formed() of a new one", x.formed(), 0);
        x.write(Check.eight("a=0"));
        Check.due("formed() before compile()", x.formed(), 0);
        Check.sentence("Promise 6: how many rough states were formed in all, if it went well");
        x.compile();
        Check.due("formed()", x.formed(), 3);
        x.compile();
        Check.due("formed() of the latest, not of both", x.formed(), 3);
        x.clear();
        x.keep(0);
        x.find();
        x.holds();
        x.count(3);
        Check.answer(() -> x.count(13));
        Check.due("formed() after other calls", x.formed(), 3);
    }

    private static void formedOtherwise() {
        Check.sentence("Promise 6: 0 otherwise");
        ColumnDecider x = Check.compiled("a=0");
        Check.compile(x, "a=0)");
        Check.due("formed() of a fault", x.formed(), 0);
        Check.compile(x, "a=0");
        Check.due("formed() then", x.formed(), 3);
        Check.compile(x, "a=0&0:4001");
        Check.due("formed() of what is TOO LARGE", x.formed(), 0);
        Check.compile(x, "a=0");
        x.clear();
        Check.answer(x::compile);
        Check.due("formed() of no text", x.formed(), 0);
    }

    private static void formedAfterJoin(ColumnDecider x, int k, int how, int due) {
        Check.compile(x, "a=0");
        Check.answer(() -> x.join(k, how));
        Check.due("formed() after join(" + k + ", " + how + ")", x.formed(), due);
    }

    private static void formedByJoin() {
        Check.sentence("Promise 6: by the latest compile() or join()");
        ColumnDecider x = Check.compiled("b+c+d+e=0");
        x.keep(1);
        Check.compile(x, "a=0");
        x.keep(0);
        formedAfterJoin(x, 0, 0, 3);
        formedAfterJoin(x, 0, 3, 0);
        formedAfterJoin(x, 0, -1, 0);
        formedAfterJoin(x, 4, 0, 0);
        formedAfterJoin(x, -1, 0, 0);
        formedAfterJoin(x, 2, 0, 0);
        formedAfterJoin(x, 1, 0, 0);
        formedAfterJoin(x, 0, 1, 3);
        Check.compile(x, "a=");
        Check.answer(() -> x.join(0, 0));
        Check.due("formed() after join() without a machine", x.formed(), 0);
    }

    private static void variables() {
        Check.sentence("Promise 7: NONE (-1) when there is no machine");
        Check.due("variables() of a new one", new ColumnDecider().variables(), -1);
        Check.due("variables() after a fault", noMachine().variables(), -1);
        Check.sentence("Promise 7: the machine's variables, bit 0 for a");
        for (int v = 0; v < 8; v++) {
            Check.due("variables()", Check.compiled((char) ('a' + v) + "=1").variables(), 1 << v);
        }
        Check.due("variables() of none", Check.compiled("1=1").variables(), 0);
        Check.due("variables() of four", Check.compiled("e+f+g+h=0").variables(), 240);
    }

    private static void nextNone() {
        Check.sentence("Promise 8: NONE when there is no machine, state or letter");
        Check.due("next(0, 0) of a new one", new ColumnDecider().next(0, 0), -1);
        Check.due("next(0, 0) after a fault", noMachine().next(0, 0), -1);
        ColumnDecider x = Check.compiled("a-93b=0");
        Check.due("next(95, 3), the last ones", x.next(95, 3) >= 0, true);
        for (int letter = 0; letter < 4; letter++) {
            Check.due("next(96, " + letter + ")", x.next(96, letter), -1);
            Check.due("next(Integer.MAX_VALUE, " + letter + ")", x.next(Integer.MAX_VALUE, letter), -1);
            for (int state : FAR) {
                Check.due("next(" + state + ", " + letter + ")", x.next(state, letter), -1);
            }
        }
        for (int state : new int[] {0, 94, 95}) {
            Check.due("next(" + state + ", 4)", x.next(state, 4), -1);
            Check.due("next(" + state + ", 16)", x.next(state, 16), -1);
            Check.due("next(" + state + ", Integer.MAX_VALUE)", x.next(state, Integer.MAX_VALUE), -1);
            for (int letter : FAR) {
                Check.due("next(" + state + ", " + letter + ")", x.next(state, letter), -1);
            }
        }
        x = Check.compiled("a+b+c+d=0");
        Check.due("next(0, 15) of four variables", x.next(0, 15) >= 0, true);
        Check.due("next(0, 16) of four variables", x.next(0, 16), -1);
        // What a larger machine left behind is no state and no letter of a smaller one.
        Check.compile(x, "a<0");
        Check.due("next(2, 0) of two states", x.next(2, 0), -1);
        Check.due("next(1, 2) of one variable", x.next(1, 2), -1);
        Check.due("next(1, 1) of two states", x.next(1, 1), 1);
    }

    private static void acceptsNone() {
        Check.sentence("Promise 9: NONE when there is no machine or state");
        Check.due("accepts(0) of a new one", new ColumnDecider().accepts(0), -1);
        Check.due("accepts(0) after a fault", noMachine().accepts(0), -1);
        ColumnDecider x = Check.compiled("a-93b=0");
        Check.due("accepts(95)", x.accepts(95) >= 0, true);
        Check.due("accepts(96)", x.accepts(96), -1);
        Check.due("accepts(Integer.MAX_VALUE)", x.accepts(Integer.MAX_VALUE), -1);
        for (int state : FAR) {
            Check.due("accepts(" + state + ")", x.accepts(state), -1);
        }
        Check.compile(x, "a<0");
        Check.due("accepts(0)", x.accepts(0), 0);
        Check.due("accepts(1)", x.accepts(1), 1);
        Check.due("accepts(2)", x.accepts(2), -1);
    }

    private static void value() {
        Check.sentence("Promise 10: true; false when there is no such variable");
        ColumnDecider x = new ColumnDecider();
        for (int v = 0; v < 8; v++) {
            Check.due("value(" + v + ")", x.value(v, Long.MIN_VALUE + v), true);
        }
        int[] wrong = {Integer.MIN_VALUE, -8, -1, 8, 9, 97, 256, Integer.MAX_VALUE};
        for (int v : wrong) {
            Check.due("value(" + v + ")", x.value(v, 5), false);
        }
        for (int v = 0; v < 8; v++) {
            Check.due("valueOf(" + v + ")", x.valueOf(v), Long.MIN_VALUE + v);
        }
        Check.due("value(0, Long.MAX_VALUE)", x.value(0, Long.MAX_VALUE), true);
        Check.due("valueOf(0)", x.valueOf(0), Long.MAX_VALUE);
        Check.compile(x, "b=1");
        Check.due("value() of one that the machine has not", x.value(7, 1), true);
        Check.compile(x, "b=");
        Check.due("valueOf(7) stays", x.valueOf(7), 1);
    }

    private static void holds(ColumnDecider x, long a, long b, boolean due) {
        x.value(0, a);
        x.value(1, b);
        Check.due("holds() with " + a + " and " + b, x.holds(), due);
    }

    private static void holds64Columns() {
        Check.sentence("Promise 11: the machine reads 64 columns");
        ColumnDecider x = Check.compiled("a=b+1");
        holds(x, Long.MIN_VALUE, Long.MAX_VALUE, false);
        holds(x, Long.MAX_VALUE, Long.MAX_VALUE - 1, true);
        holds(x, Long.MIN_VALUE + 1, Long.MIN_VALUE, true);
        holds(x, 0, -1, true);
        x = Check.compiled("a>b");
        holds(x, Long.MAX_VALUE, Long.MIN_VALUE, true);
        holds(x, Long.MIN_VALUE, Long.MAX_VALUE, false);
        x = Check.compiled("a=0");
        holds(x, Long.MIN_VALUE, 0, false);
        holds(x, 1L << 62, 0, false);
        holds(x, 1L << 32, 0, false);
        holds(x, 0, 0, true);
        x = Check.compiled("Eb.a=2b&b>a");
        holds(x, Long.MIN_VALUE, 0, true);
        holds(x, -1, 0, false);
        Check.due("holds() without variables", Check.compiled("1=1").holds(), true);
        Check.due("holds() without variables", Check.compiled("1=2").holds(), false);
    }

    private static void holdsNoMachine() {
        Check.sentence("Promise 11: IllegalStateException: there is no machine");
        Check.due("holds() of a new one", holds(new ColumnDecider()), Check.STATE);
        Check.due("holds() after a fault", holds(noMachine()), Check.STATE);
    }

    private static void countEdges() {
        Check.sentence("Promise 12: how many words of n columns the machine accepts (n 1 .. 12)");
        ColumnDecider x = Check.compiled("a<0");
        Check.due("count(1)", x.count(1), 1);
        Check.due("count(2)", x.count(2), 2);
        Check.due("count(11)", x.count(11), 1024);
        Check.due("count(12)", x.count(12), 2048);
        Check.due("count(1) again", x.count(1), 1);
        Check.due("count(12) of all with four variables", Check.compiled("a=b&c=d|1=1").count(12), 1L << 48);
        Check.due("count(1) of all with four variables", Check.compiled("a=b&c=d|1=1").count(1), 16);
        Check.due("count(12) of none", Check.compiled("a=1&a=2").count(12), 0);
        Check.due("count(1) without variables", Check.compiled("1=1").count(1), 1);
        Check.due("count(12) without variables", Check.compiled("1=2").count(12), 0);
        Check.sentence("Promise 12: IllegalArgumentException: another n");
        for (int n : new int[] {Integer.MIN_VALUE, -1, 0, 13, 14, 64, Integer.MAX_VALUE}) {
            Check.due("count(" + n + ")", Check.answer(() -> x.count(n)), Check.ARGUMENT);
            ColumnDecider none = noMachine();
            Check.due("count(" + n + "), no machine", Check.answer(() -> none.count(n)), Check.ARGUMENT);
        }
    }

    private static void countNoMachine() {
        Check.sentence("Promise 12: IllegalStateException: there is no machine");
        for (int n = 1; n <= 12; n++) {
            int columns = n;
            ColumnDecider x = new ColumnDecider();
            ColumnDecider y = noMachine();
            Check.due("count(" + n + ") of a new one", Check.answer(() -> x.count(columns)), Check.STATE);
            Check.due("count(" + n + ") after a fault", Check.answer(() -> y.count(columns)), Check.STATE);
        }
    }

    private static void found(String text, int columns, long... due) {
        ColumnDecider x = Check.compiled(text);
        for (int v = 0; v < 8; v++) {
            x.value(v, 100 + v);
        }
        Check.due("find() of \"" + text + "\"", x.find(), columns);
        for (int v = 0; v < 8; v++) {
            long want = v < due.length ? due[v] : 100 + v;
            Check.due("find() of \"" + text + "\": valueOf(" + v + ")", x.valueOf(v), want);
        }
    }

    private static void findNothing() {
        Check.sentence("Promise 13: 0 when it accepts none; the VALUES stay (also with 0)");
        found("1=2", 0);
        found("a=1&a=2", 0);
        found("2a=1", 0);
        found("a+b+c+d<a+b+c+d", 0);
        found("a<b&b<a", 0);
    }

    private static void findEdges() {
        Check.sentence("Promise 13: the shortest one, of several the first one in the order of letters (the first letter counts first)");
        found("1=1", 1);
        found("a=0|a=0-1", 1, 0);
        found("a!=0", 1, -1);
        found("a=1|a=0-2", 2, -2);
        found("a>0", 2, 1);
        found("a=3|a=0-4|a=2", 3, -4);
        found("a=3|a=2", 3, 2);
        found("a!=b", 1, -1, 0);
        found("a<b", 1, -1, 0);
        found("a>b", 1, 0, -1);
        found("a+b=1", 2, 1, 0);
    }

    private static void findOthersStay() {
        Check.sentence("Promise 13: the VALUES of its variables become what it says, those of others stay");
        found("h=3", 3, 100, 101, 102, 103, 104, 105, 106, 3);
        found("b=3", 3, 100, 3);
        found("Ea.a=b&b=1", 2, 100, 1);
        found("a=1|b=b", 1, 0);
        found("a=1|(b=1|b!=1)", 1, 0, 0);
    }

    /** That a is 2 to the 60th times what the last a is. */
    private static ColumnDecider far(String last) {
        return Check.compiled("Eb.a=32b&Ea.b=32a&".repeat(6) + last);
    }

    private static void found(ColumnDecider x, int columns, long a) {
        Check.due("find()", x.find(), columns);
        Check.due("valueOf(0)", x.valueOf(0), a);
        if (columns <= 64) {
            Check.due("holds() then", x.holds(), true);
        }
    }

    private static void findManyColumns() {
        Check.sentence("Promise 13: how many columns, also 63, 64 and more than VALUES have");
        found(far("a=2"), 63, 1L << 61);
        found(far("a=4"), 64, 1L << 62);
        found(far("a=7"), 64, 7L << 60);
        found(far("a=0-8"), 64, Long.MIN_VALUE);
        found(far("a=0-7"), 64, -7L << 60);
        found(far("a=8"), 65, Long.MIN_VALUE);
        found(far("a=0-9"), 65, 7L << 60);
        found(far("a=16"), 66, 0);
        // The most columns that the states of such a machine can tell.
        String most = "Eb.a=32b&Ea.b=32a&".repeat(9);
        ColumnDecider x = new ColumnDecider();
        Check.due("compile of 2 to the 92nd", Check.compile(x, most + "a=4"), 96);
        found(x, 94, 0);
        large(most + "a=8");
        Check.due("compile of -2 to the 93rd", Check.compile(x, most + "a=0-8"), 96);
        found(x, 94, 0);
        large(most + "a=0-16");
    }

    private static void findNoMachine() {
        Check.sentence("Promise 13: IllegalStateException: there is no machine");
        ColumnDecider x = noMachine();
        x.value(0, 6);
        Check.due("find() after a fault", Check.answer(x::find), Check.STATE);
        Check.due("valueOf(0) stays", x.valueOf(0), 6);
        Check.due("find() of a new one", Check.answer(new ColumnDecider()::find), Check.STATE);
    }

    private static void valueOf() {
        Check.sentence("Promise 14: 0 when there is no such one");
        ColumnDecider x = new ColumnDecider();
        for (int v = 0; v < 8; v++) {
            x.value(v, v + 1);
        }
        for (int v : new int[] {Integer.MIN_VALUE, -8, -1, 8, 9, 97, 256, Integer.MAX_VALUE}) {
            Check.due("valueOf(" + v + ")", x.valueOf(v), 0);
        }
        Check.due("valueOf(0)", x.valueOf(0), 1);
        Check.due("valueOf(7)", x.valueOf(7), 8);
    }

    private static void keepPlaces() {
        Check.sentence("Promise 15: kept in place k (0 .. 3): true; false when there is no place");
        ColumnDecider x = Check.compiled("a=1");
        for (int k : new int[] {Integer.MIN_VALUE, -4, -1, 4, 5, Integer.MAX_VALUE}) {
            Check.due("keep(" + k + ")", x.keep(k), false);
        }
        for (int k = 0; k < 4; k++) {
            Check.due("same(" + k + ") before", x.same(k), -1);
            Check.due("keep(" + k + ")", x.keep(k), true);
            Check.due("same(" + k + ")", x.same(k), 1);
        }
        Check.compile(x, "a=2");
        Check.due("keep(3) over it", x.keep(3), true);
        Check.due("same(3)", x.same(3), 1);
        Check.due("same(2), which stays", x.same(2), 0);
        x.join(2, 1);
        Check.due("same(3), which join() leaves", x.same(3), 0);
        Check.compile(x, "a=2");
        Check.due("same(3), which join() left", x.same(3), 1);
    }

    private static void keepNoMachine() {
        Check.sentence("Promise 15: false when there is no machine");
        ColumnDecider x = noMachine();
        ColumnDecider y = new ColumnDecider();
        for (int k = -1; k <= 4; k++) {
            Check.due("keep(" + k + ") of a new one", y.keep(k), false);
            Check.due("keep(" + k + ") after a fault", x.keep(k), false);
        }
        Check.compile(x, "a=b");
        Check.due("same(0), which a refused keep(0) left", x.same(0), 1);
        Check.due("same(1), where a keep(1) was refused", x.same(1), -1);
    }

    private static void sameNone() {
        Check.sentence("Promise 16: NONE when one is not there");
        ColumnDecider x = Check.compiled("a=b");
        for (int k : new int[] {Integer.MIN_VALUE, -1, 0, 1, 2, 3, 4, Integer.MAX_VALUE}) {
            Check.due("same(" + k + "), nothing kept there", x.same(k), -1);
            Check.due("same(" + k + ") of a new one", new ColumnDecider().same(k), -1);
        }
        Check.due("same(0), no machine", noMachine().same(0), -1);
        Check.due("same(1), neither", noMachine().same(1), -1);
    }

    private static void same(String one, String two, int due) {
        ColumnDecider x = Check.compiled(one);
        x.keep(0);
        Check.compile(x, two);
        Check.due("same(0) of \"" + two + "\" and \"" + one + "\"", x.same(0), due);
    }

    private static void sameAll() {
        Check.sentence("Promise 16: whether they are the same: variables, states, all (1 or 0)");
        same("a:2", "!!Eb.a=2b", 1);
        same("a:2", "b:2", 0);
        same("a:2", "a+1:2", 0);
        same("a<0", "a!=0", 0);
        same("a<0", "a=0", 0);
        same("1=1", "1=2", 0);
        same("1=1", "a=a", 1);
        same("1=1", "1=1|a=1", 0);
        same("a-93b=0", "93b=a", 1);
        same("a-93b=0", "a-93b=1", 0);
        same("a+b=c", "a+b=d", 0);
    }

    private static void refused(ColumnDecider x, int k, int how, long due) {
        Check.due("join(" + k + ", " + how + ")", Check.answer(() -> x.join(k, how)), due);
        Check.due("formed() then", x.formed(), 0);
    }

    private static void joinArguments() {
        Check.sentence("Promise 17: IllegalArgumentException: no such how, or place, or nothing is kept there");
        ColumnDecider x = Check.compiled("a=b");
        x.keep(0);
        x.keep(3);
        int[] hows = {Integer.MIN_VALUE, -1, 3, 4, Integer.MAX_VALUE};
        int[] places = {Integer.MIN_VALUE, -1, 1, 2, 4, 5, Integer.MAX_VALUE};
        for (int how : hows) {
            refused(x, 0, how, Check.ARGUMENT);
        }
        for (int k : places) {
            for (int how = -1; how <= 3; how++) {
                refused(x, k, how, Check.ARGUMENT);
            }
        }
        Check.due("the machine stays", x.same(0), 1);
        Check.due("place() stays", x.place(), 3);
        for (int how = 0; how < 3; how++) {
            int by = how;
            Check.compile(x, "a=b");
            Check.due("join(3, " + how + ")", Check.answer(() -> x.join(3, by)) > 0, true);
        }
    }

    private static void joinNoMachine() {
        Check.sentence("Promise 17: IllegalStateException: there is no machine");
        ColumnDecider x = noMachine();
        for (int how = 0; how < 3; how++) {
            refused(x, 0, how, Check.STATE);
        }
        refused(x, 0, 3, Check.ARGUMENT);
        refused(x, 1, 0, Check.ARGUMENT);
        Check.due("variables() then", x.variables(), -1);
    }

    /** Compiles the left part with the right one kept in place 1, and the left one in place 0. */
    private static ColumnDecider twoParts(String[] parts) {
        ColumnDecider x = Check.compiled(parts[1]);
        x.keep(1);
        Check.due("compile of \"" + parts[0] + "\" goes well", Check.compile(x, parts[0]) > 0, true);
        x.keep(0);
        return x;
    }

    private static void joinWithin() {
        Check.sentence("Promise 17: joined as by & (how 0), | (1), => (2), just within each bound");
        for (int how = 0; how < 3; how++) {
            int by = how;
            ColumnDecider x = twoParts(ROUGH_1000[how]);
            Check.due("join(1, " + how + ")", Check.answer(() -> x.join(1, by)) > 0, true);
            Check.due("formed()", x.formed(), 1000);
            ColumnDecider y = twoParts(STATES_96[how]);
            Check.due("join(1, " + how + ")", Check.answer(() -> y.join(1, by)), 96);
            Check.due("accepts(95)", y.accepts(95) >= 0, true);
            ColumnDecider z = twoParts(new String[] {"a+b+c=d", "a+d=b"});
            Check.due("join(1, " + how + ")", Check.answer(() -> z.join(1, by)) > 0, true);
            Check.due("variables()", z.variables(), 15);
        }
    }

    private static void joinTooLarge() {
        Check.sentence("Promise 17: TOO LARGE (the machine stays)");
        for (int how = 0; how < 3; how++) {
            staysWhenTooLarge(twoParts(ROUGH_1001[how]), how);
            staysWhenTooLarge(twoParts(STATES_97[how]), how);
            staysWhenTooLarge(twoParts(new String[] {"a+b+c=d", "e=b"}), how);
        }
    }

    private static void staysWhenTooLarge(ColumnDecider x, int how) {
        int place = x.place();
        int variables = x.variables();
        refused(x, 1, how, Check.STATE);
        Check.due("the machine stays", x.same(0), 1);
        Check.due("variables() stays", x.variables(), variables);
        Check.due("place() stays", x.place(), place);
        Check.due("join() with itself then", Check.answer(() -> x.join(0, 0)) > 0, true);
        Check.due("the machine of it and itself", x.same(0), 1);
    }

    private static void joinBecomes() {
        Check.sentence("Promise 17: the machine becomes that of it and the one in place k: how many states");
        String[] hows = {"a<0&b<0", "a<0|b<0", "a<0=>b<0"};
        for (int how = 0; how < 3; how++) {
            ColumnDecider x = twoParts(new String[] {"a<0", "b<0"});
            int by = how;
            long states = Check.answer(() -> x.join(1, by));
            x.keep(2);
            Check.due("join(1, " + how + ") is " + hows[how], Check.compile(x, hows[how]), states);
            Check.due("join(1, " + how + ") is " + hows[how], x.same(2), 1);
        }
        // The first pair, come to again, accepts.
        ColumnDecider x = twoParts(new String[] {"1=2", "1=2"});
        Check.due("join(1, 2) of what is never true", Check.answer(() -> x.join(1, 2)), 2);
        Check.due("formed()", x.formed(), 2);
        Check.due("accepts(0)", x.accepts(0), 0);
        Check.due("accepts(1)", x.accepts(1), 1);
    }
}
