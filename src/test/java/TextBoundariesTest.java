/**
 * Promises 2 to 5 and what 'Terms' says of the text: each sentence that names a boundary, one by
 * one, in the document's order.
 */
public final class TextBoundariesTest {
    private static final int FINE = -1;
    private static final long SPACES = 0x2020202020202020L;

    public static void main(String[] args) {
        textHas256();
        charactersAre32To126();
        spacesCountForNothing();
        digitsStandTogether();
        twoSignsStandTogether();
        variablesAreAToH();
        formula();
        either();
        both();
        denied();
        quantified();
        parentheses();
        comparison();
        divided();
        sum();
        part();
        number();
        longerSign();
        atMost20Open();
        openOfEveryKind();
        mostWaitsWith20Open();
        openUntilItEnds();
        firstCharacterWithWhichNoFormulaGoesOn();
        endsTooEarly();
        oneMoreOpenIsToldAtItsSign();
        fifthDigit();
        number0();
        signOfTwoIsToldAtItsFirst();
        meaning();
        nearestQuantifier();
        writeAppends();
        writeLeaves0Out();
        writeRefusesNoCharacter();
        writeRefusesTooMany();
        writeOfNothingToFull();
        clear();
        compileOfNoFormula();
        place();
        Check.end();
    }

    private static void fault(String text, int place) {
        ColumnDecider x = new ColumnDecider();
        long got = Check.compile(x, text);
        boolean fine = place == FINE;
        Check.due("compile of \"" + text + "\" throws", got == Check.ARGUMENT, !fine);
        Check.due("place of \"" + text + "\"", x.place(), fine ? text.length() : place);
    }

    /** That both formulas have the same machine. */
    private static void alike(String one, String two) {
        ColumnDecider x = Check.compiled(one);
        x.keep(0);
        Check.due("compile of \"" + two + "\" goes well", Check.compile(x, two) > 0, true);
        Check.due("\"" + two + "\" has the machine of \"" + one + "\"", x.same(0), 1);
    }

    private static void unlike(String one, String two) {
        ColumnDecider x = Check.compiled(one);
        x.keep(0);
        Check.compile(x, two);
        Check.due("\"" + two + "\" has the machine of \"" + one + "\"", x.same(0), 0);
    }

    private static void truth(String text, boolean due) {
        ColumnDecider x = Check.compiled(text);
        Check.due("holds() of \"" + text + "\"", x.holds(), due);
    }

    private static ColumnDecider withSpaces(int many) {
        ColumnDecider x = new ColumnDecider();
        for (int i = 0; i < many; i++) {
            Check.due("write of a space, " + i + " before it", x.write(32), true);
        }
        return x;
    }

    private static void written(ColumnDecider x, int characters) {
        Check.due("compile() of spaces", Check.answer(x::compile), Check.ARGUMENT);
        Check.due("the characters written", x.place(), characters);
    }

    private static void textHas256() {
        Check.sentence("Terms: THE TEXT has at most 256 characters");
        ColumnDecider x = withSpaces(256);
        Check.due("write of the 257th", x.write(32), false);
        written(x, 256);
        fault(" ".repeat(253) + "1=1", FINE);
        fault("1=1&".repeat(63) + "1=11", FINE);
        fault("1=1&".repeat(64), 256);
        fault("(" + "1=1|".repeat(63) + "1=1", 256);
        fault(" ".repeat(255) + "?", 255);
        // As many comparisons as there is room for: each counts.
        for (int i = 0; i < 64; i++) {
            String text = "1=2|".repeat(i) + "1=1|" + "1=2|".repeat(63 - i);
            truth(text.substring(0, 255), true);
        }
        truth("1=2|".repeat(63) + "1=2", false);
        fault("a" + "+a".repeat(126) + "=0", FINE);
        fault("a" + "-a".repeat(126) + "=a", FINE);
    }

    private static void charactersAre32To126() {
        Check.sentence("Terms: each 32 .. 126");
        for (int c = 1; c < 256; c++) {
            ColumnDecider x = new ColumnDecider();
            Check.due("write(" + c + ")", x.write(c), c >= 32 && c <= 126);
        }
    }

    private static void spacesCountForNothing() {
        Check.sentence("Terms: SPACES (32) between signs count for nothing");
        alike("-2a+3b<=c=>!(Eb.b>0&a=2b)|a:3",
                "   -  2   a + 3 b  <=  c  =>  !  (  E  b  .  b  >  0  &  a  =  2 b )  |  a  :  3   ");
        alike("a=1", "          a          =          1          ");
    }

    private static void digitsStandTogether() {
        Check.sentence("Terms: but a number's digits stand together");
        fault("a=1 2", 4);
        fault("1 2=a", 2);
        fault("a:1 2", 4);
        fault("1 2a=b", 2);
        fault("a=999 9", 6);
        fault("a=12 b", FINE);
    }

    private static void twoSignsStandTogether() {
        Check.sentence("Terms: as do the two signs of =>, <=, >=, !=");
        fault("a=1=>a=2", FINE);
        fault("a=1= >a=2", 3);
        fault("a<=1", FINE);
        fault("a< =1", 3);
        fault("a>=1", FINE);
        fault("a> =1", 3);
        fault("a!=1", FINE);
        fault("a! =1", 1);
    }

    private static void variablesAreAToH() {
        Check.sentence("Terms: VARIABLES are a .. h");
        for (int c = 33; c <= 126; c++) {
            boolean variable = c >= 'a' && c <= 'h';
            boolean digit = c >= '0' && c <= '9';
            fault("1=" + (char) c, variable || digit ? FINE : c == '-' ? 3 : c == '>' ? 1 : 2);
            fault("E" + (char) c + ".1=1", variable ? FINE : 1);
        }
        Check.due("variables of a and h", Check.compiled("a=h").variables(), 129);
    }

    private static void formula() {
        Check.sentence("Terms: FORMULA: EITHER, or EITHER => FORMULA");
        truth("1=2=>1=2=>1=2", true);
        truth("(1=2=>1=2)=>1=2", false);
        truth("1=1|1=1=>1=2", false);
        truth("1=2=>1=2|1=2", true);
        fault("=>1=1", 0);
        fault("1=1=>", 5);
        fault("1=1=>=>1=1", 5);
    }

    private static void either() {
        Check.sentence("Terms: EITHER: one or more BOTH with | between");
        truth("1=1|1=2&1=2", true);
        truth("1=2&1=2|1=1", true);
        truth("1=2|1=2|1=1", true);
        fault("|1=1", 0);
        fault("1=1|", 4);
        fault("1=1||1=1", 4);
    }

    private static void both() {
        Check.sentence("Terms: BOTH: one or more PLAIN with & between");
        truth("1=1&1=1&1=2", false);
        truth("1=1&1=1&1=1", true);
        fault("&1=1", 0);
        fault("1=1&", 4);
        fault("1=1&&1=1", 4);
    }

    private static void denied() {
        Check.sentence("Terms: PLAIN: ! PLAIN");
        truth("!1=1", false);
        truth("!!1=1", true);
        truth("!1=1&1=2", false);
        truth("!(1=1&1=2)", true);
        truth("!1=2=>1=2", false);
        fault("!", 1);
        fault("!&", 1);
        fault("!)", 1);
        fault("1!=1!", 4);
    }

    private static void quantified() {
        Check.sentence("Terms: E or A, a variable, a point and a FORMULA (as far as it goes)");
        alike("Eb.(a=b|a=1=>a=2)", "Eb.a=b|a=1=>a=2");
        unlike("(Eb.a=b|a=1)=>a=2", "Eb.a=b|a=1=>a=2");
        alike("a=1&(Eb.a=2b|a=1)", "a=1&Eb.a=2b|a=1");
        alike("!(Eb.a=2b|b=a-1)", "!Eb.a=2b|b=a-1");
        alike("(Eb.a=2b)|a=1", "(Eb.a=2b)|a=1");
        fault("E", 1);
        fault("Ea", 2);
        fault("Ea.", 3);
        fault("E.", 1);
        fault("Ea1=1", 2);
        fault("Eab.1=1", 2);
        fault("e=1", FINE);
        fault("Ee.1=1", FINE);
        fault("A=1", 1);
        fault("A1.1=1", 1);
        fault("Ea.)", 3);
        fault("Ea..1=1", 3);
        fault("EEa.1=1", 1);
    }

    private static void parentheses() {
        Check.sentence("Terms: ( FORMULA )");
        fault("(1=1=>1=1)", FINE);
        fault("()", 1);
        fault("(1=1", 4);
        fault("1=1)", 3);
        fault("(1=1))", 5);
        fault("(1)=1", 2);
        fault("1=(1)", 2);
        fault("(1=1)(1=1)", 5);
        fault("(1=1)1=1", 5);
        fault("1=1(1=1)", 3);
    }

    private static void comparison() {
        Check.sentence("Terms: COMPARISON: SUM = SUM, also with <, >, <=, >=, !=");
        String[] signs = {"=", "<", ">", "<=", ">=", "!="};
        boolean[][] due = {
            {false, true, false}, {true, false, false}, {false, false, true},
            {true, true, false}, {false, true, true}, {true, false, true}};
        for (int i = 0; i < signs.length; i++) {
            for (int left = 4; left <= 6; left++) {
                truth(left + signs[i] + "5", due[i][left - 4]);
            }
            fault("a" + signs[i], 1 + signs[i].length());
            fault(signs[i] + "a", 0);
            fault("a" + signs[i] + "1" + signs[i] + "1", 2 + signs[i].length());
        }
        fault("a", 1);
        fault("a+b", 3);
    }

    private static void divided() {
        Check.sentence("Terms: or SUM : NUMBER (NUMBER divides it; it isn't 0)");
        truth("0:1", true);
        truth("0:9999", true);
        truth("9999:9999", true);
        truth("9998:9999", false);
        truth("-6:3", true);
        truth("-7:3", false);
        fault("a:0", 2);
        fault("a:1", FINE);
        fault("a:", 2);
        fault("a:a", 2);
        fault("a:-1", 2);
        fault("a:1a", 3);
        fault("a:1+1", 3);
        fault("a:1:1", 3);
        fault("a:1=1", 3);
        fault("a=1:1", 3);
        fault(":1", 0);
        fault("a+1-2b:3", FINE);
    }

    private static void sum() {
        Check.sentence("Terms: SUM: PART or - PART, then any more with + or - before them");
        truth("-1+2-3=-2", true);
        truth("5=-1+2+4", true);
        truth("1-1-1=-1", true);
        fault("-a=-b", FINE);
        fault("--a=b", 1);
        fault("+a=b", 0);
        fault("a=+b", 2);
        fault("a+-b=0", 2);
        fault("a-+b=0", 2);
        fault("a+=0", 2);
        fault("a-", 2);
        fault("a=-", 3);
        fault("-=0", 1);
    }

    private static void part() {
        Check.sentence("Terms: PART: a NUMBER, a NUMBER and a variable (so many times it), a variable");
        alike("a+a+a=b", "3a=b");
        alike("1a=b", "a=b");
        alike("0a=b", "0=b");
        alike("9999a=9999", "9999a-9999=0");
        fault("a2=b", 1);
        fault("ab=1", 1);
        fault("2ab=1", 2);
        fault("2 a=1", FINE);
        fault("a=", 2);
    }

    private static void number() {
        Check.sentence("Terms: NUMBER: one to four digits");
        truth("9999=9998+1", true);
        truth("0000=0", true);
        truth("0007=7", true);
        truth("10=9+1", true);
        fault("a=9999", FINE);
        fault("a=99999", 6);
    }

    private static void longerSign() {
        Check.sentence("Terms: Of two readings of signs the longer sign counts (so => is never = and >)");
        fault("a=>1", 1);
        fault("1=1=>1=1", FINE);
        fault("1=1=>=1", 5);
        fault("a<=>1", 3);
        fault("a>=>1", 3);
        fault("a!=>1", 3);
        fault("a>==1", 3);
        fault("a==>1", 2);
        fault("!=1", 0);
        fault("a!=1", FINE);
        fault("a=!=1", 2);
        fault("!a!=1", FINE);
    }

    /** 20 of them one in the other are fine; of 21 the last one's sign is told. */
    private static void open(String sign, int signAt, String end) {
        fault(sign.repeat(20) + "1=1" + end.repeat(20), FINE);
        fault(sign.repeat(21) + "1=1" + end.repeat(21), 20 * sign.length() + signAt);
        fault(sign.repeat(21), 20 * sign.length() + signAt);
    }

    private static void atMost20Open() {
        Check.sentence("Terms: At most 20 things are OPEN at a time: parentheses");
        open("(", 0, ")");
        Check.sentence("Terms: what is behind !");
        open("!", 0, "");
        open(" !", 1, "");
        Check.sentence("Terms: behind a quantifier's point");
        open("Ea.", 0, "");
        open("Ab.", 0, "");
        open(" E c .", 1, "");
        Check.sentence("Terms: and behind =>");
        open("1=1=>", 3, "");
        open("1=1 => ", 4, "");
    }

    private static void openOfEveryKind() {
        Check.sentence("Terms: At most 20 things are OPEN at a time, of whatever kinds");
        String[] signs = {"(", "!", "Ea.", "1=1=>"};
        int[] signAt = {0, 0, 0, 3};
        String[] ends = {")", "", "", ""};
        String nineteen = "((((!!!!!Ea.Ab.Ac.Ed.Ee.1=1=>1=1=>1=1=>1=1=>1=1=>";
        for (int i = 0; i < signs.length; i++) {
            fault(nineteen + signs[i] + "1=1" + ends[i] + "))))", FINE);
            for (int j = 0; j < signs.length; j++) {
                String text = nineteen + signs[i] + signs[j] + "1=1" + ends[j] + ends[i] + "))))";
                // What is behind ! ends before =>.
                boolean ended = signs[i].equals("!") && signs[j].equals("1=1=>");
                fault(text, ended ? FINE : nineteen.length() + signs[i].length() + signAt[j]);
            }
        }
    }

    /** What is left of | and of & waits in each of the 20 open things and in the whole. */
    private static void mostWaitsWith20Open() {
        Check.sentence("Terms: At most 20 things are OPEN at a time, with most to wait for what is in them");
        for (int values = 0; values < 8; values++) {
            boolean first = (values & 1) != 0;
            boolean second = (values & 2) != 0;
            boolean third = (values & 4) != 0;
            String inmost = (first ? "1=1|" : "1=2|") + (second ? "1=1&" : "1=2&") + (third ? "1=1" : "1=2");
            truth("1=2|1=1&(".repeat(20) + inmost + ")".repeat(20), first || second && third);
            truth("1=2|1=1&Ea.".repeat(20) + inmost, first || second && third);
        }
        truth("1=1=>1=2|1=1&(".repeat(10) + "1=1|1=1&1=2" + ")".repeat(10), true);
        truth("1=1=>1=2|1=1&(".repeat(10) + "1=2|1=2&1=1" + ")".repeat(10), false);
    }

    private static void openUntilItEnds() {
        Check.sentence("Terms: each until it ends");
        String denied = "!".repeat(20) + "1=1";
        String inside = "(".repeat(20) + "1=1" + ")".repeat(20);
        fault(denied + "&" + denied + "|" + inside + "|" + denied + "&" + inside, FINE);
        fault(inside + "=>" + "!".repeat(19) + "1=1", FINE);
        fault(inside + "=>" + denied, 64);
        fault("1=1=>" + "(".repeat(19) + "1=1" + ")".repeat(19) + "&" + "!".repeat(19) + "1=1", FINE);
        fault("1=1=>" + "(".repeat(19) + "1=1" + ")".repeat(19) + "&" + denied, 66);
        // A quantifier's formula ends only where a parenthesis does, or the text.
        fault("Ea.".repeat(20) + "1=1&1=1|1=1", FINE);
        fault("Ea.".repeat(20) + "1=1&!1=1", 64);
        fault("Ea.".repeat(20) + "1=1=>1=1", 63);
        fault("(" + "Ea.".repeat(19) + "1=1)=>!1=1", FINE);
        fault("(1=1=>1=1=>1=1)=>" + "!".repeat(19) + "1=1", FINE);
        fault("(1=1=>1=1=>1=1)=>" + "!".repeat(20) + "1=1", 36);
    }

    private static void firstCharacterWithWhichNoFormulaGoesOn() {
        Check.sentence("Terms: that of the first character (SPACES are passed by) with which no formula goes on");
        fault("?", 0);
        fault("   ?", 3);
        fault("a   ?", 4);
        fault("a=   ?", 5);
        fault("a=1   ?", 6);
        fault("a=1   1=a", 6);
        fault("(a=1   ?", 7);
        fault("Ea   ?", 5);
        fault("Ea.   ?", 6);
        fault("a:   ?", 5);
        fault("a:2   2", 6);
        fault("? ? ?", 0);
    }

    private static void endsTooEarly() {
        Check.sentence("Terms: the text's length if it ends too early");
        String[] early = {"", "(", "!", "E", "Ea", "Ea.", "a", "2", "-", "a+", "a=", "a<=", "a=-", "a:", "a=1=>", "a=1|", "a=1&", "(a=1"};
        for (String text : early) {
            fault(text, text.length());
            fault(text + "     ", text.length() + 5);
        }
        // A sign is what stands there, not the longer one that might have come of it.
        fault("a!", 1);
        fault("a=1=", 3);
        fault("a=1 = ", 4);
    }

    private static void oneMoreOpenIsToldAtItsSign() {
        Check.sentence("Terms: for one more open than 20 that of its sign (of a quantifier its E or A)");
        String twenty = "!".repeat(20);
        fault(twenty + "   (1=1)", 23);
        fault(twenty + "   !1=1", 23);
        fault(twenty + "   E   a   .   1=1", 23);
        fault(twenty + "   A   a   .   1=1", 23);
        fault("(".repeat(20) + "1=1   =>   1=1" + ")".repeat(20), 26);
        fault(twenty + "(", 20);
        fault(twenty + "E", 20);
        // What comes before it is told first.
        fault(twenty + "&(1=1)", 20);
        fault(twenty + "a(1=1)", 21);
    }

    private static void fifthDigit() {
        Check.sentence("Terms: for a fifth digit that of it");
        fault("12345=a", 4);
        fault("a=12345", 6);
        fault("a=   12345", 9);
        fault("a=1234567", 6);
        fault("12345", 4);
        fault("a:12345", 6);
        fault("a=00001", 6);
        fault("12345a=b", 4);
        fault("a12345", 1);
        fault("1=1 12345", 4);
    }

    private static void number0() {
        Check.sentence("Terms: for a NUMBER 0 behind : that of its first 0");
        fault("a:0", 2);
        fault("a:00", 2);
        fault("a:0000", 2);
        fault("a:   000   ", 5);
        fault("a:0?", 2);
        fault("a:0&", 2);
        fault("a:0 0", 2);
        fault("a:0001", FINE);
        fault("a:1000", FINE);
        fault("0:1", FINE);
    }

    private static void signOfTwoIsToldAtItsFirst() {
        Check.sentence("Terms: a sign of two characters is told at its first one");
        for (String sign : new String[] {"=>", "<=", ">=", "!="}) {
            fault(sign, 0);
            fault("  " + sign + "1", 2);
            fault("a= " + sign, 3);
            fault("(" + sign, 1);
            fault("Ea" + sign, 2);
        }
        for (String sign : new String[] {"<=", ">=", "!="}) {
            fault("a=1" + sign, 3);
            fault("a:1" + sign, 3);
        }
        fault("1=>1", 1);
    }

    private static void meaning() {
        Check.sentence("Terms: => is no or yes, E there is, A for all, over all whole numbers");
        truth("1=2=>1=2", true);
        truth("1=2=>1=1", true);
        truth("1=1=>1=2", false);
        truth("1=1=>1=1", true);
        truth("Ea.a<0-9999", true);
        truth("Aa.a>0-9999", false);
        truth("Aa.Eb.b<a", true);
        truth("Eb.Aa.b<a", false);
        truth("Aa.a>=0", false);
    }

    private static void nearestQuantifier() {
        Check.sentence("Terms: a variable is that of the nearest quantifier around it that names it; the others are FREE");
        alike("a=1", "a=1&Ea.a=2");
        alike("a=1", "(Ea.a=2)&a=1");
        truth("Ea.a=1&Ea.a=2", true);
        truth("Ea.a=1&a=2", false);
        truth("Ea.a=1&(Eb.Aa.a=b|a!=b)&a=1", true);
        Check.due("variables of b free and bound", Check.compiled("a=b&Eb.b=a+1").variables(), 3);
        Check.due("variables of all bound", Check.compiled("Ea.Eb.a=b").variables(), 0);
    }

    private static void writeAppends() {
        Check.sentence("Promise 2: appends to the text the eight bytes of eight, the highest first: true");
        ColumnDecider x = new ColumnDecider();
        Check.due("write of (a=12&b=", x.write(Check.eight("(a=12&b=")), true);
        Check.due("write of 34)|c=56", x.write(Check.eight("34)|c=56")), true);
        Check.due("compile()", Check.answer(x::compile) > 0, true);
        Check.due("place()", x.place(), 16);
        x.keep(0);
        Check.compile(x, "a=12&b=34|c=56");
        Check.due("is the formula written", x.same(0), 1);
    }

    private static void writeLeaves0Out() {
        Check.sentence("Promise 2: those that are 0 being left out");
        ColumnDecider x = new ColumnDecider();
        Check.due("write(0)", x.write(0), true);
        written(x, 0);
        for (int i = 0; i < 8; i++) {
            Check.due("write of one, " + i + " bytes behind it", x.write(32L << 8 * i), true);
            written(x, i + 1);
        }
        Check.due("write, zeros between", x.write(0x2000200020002000L), true);
        written(x, 12);
        Check.due("write, zeros before", x.write(0x20202020L), true);
        written(x, 16);
    }

    private static void writeRefusesNoCharacter() {
        Check.sentence("Promise 2: false, refused, when another one is no character");
        ColumnDecider x = withSpaces(3);
        for (int wrong : new int[] {1, 9, 31, 127, 128, 160, 255}) {
            for (int i = 0; i < 8; i++) {
                long at = 8L * i;
                long among = SPACES & ~(255L << at) | (long) wrong << at;
                Check.due("write of " + wrong + " alone, place " + i, x.write((long) wrong << at), false);
                Check.due("write of " + wrong + " among spaces, place " + i, x.write(among), false);
            }
        }
        written(x, 3);
        Check.due("write of 32 and 126", x.write(0x207EL), true);
        Check.due("write(-1)", x.write(-1), false);
        Check.due("write(Long.MIN_VALUE)", x.write(Long.MIN_VALUE), false);
        ColumnDecider full = withSpaces(256);
        Check.due("write of no character to a full text", full.write(31), false);
        written(full, 256);
    }

    private static void writeRefusesTooMany() {
        Check.sentence("Promise 2: or there would be too many");
        for (int before = 248; before <= 256; before++) {
            ColumnDecider x = withSpaces(before);
            for (int more = 8; more > 256 - before; more--) {
                Check.due("write of " + more + " to " + before, x.write(SPACES >>> 8 * (8 - more)), false);
            }
            // Nothing of what was refused is there.
            written(x, before);
            int fits = 256 - before;
            Check.due("write of " + fits + " to " + before, x.write(fits == 0 ? 0 : SPACES >>> 8 * (8 - fits)), true);
            written(x, 256);
        }
        ColumnDecider x = withSpaces(255);
        Check.due("write of one and seven 0 to 255", x.write(0x2000000000000000L), true);
        Check.due("write of one more", x.write(0x2000000000000000L), false);
    }

    private static void writeOfNothingToFull() {
        Check.sentence("Promise 2: a full text to which nothing is added");
        ColumnDecider x = withSpaces(256);
        Check.due("write(0) to a full text", x.write(0), true);
        written(x, 256);
    }

    private static void clear() {
        Check.sentence("Promise 3: there is no text");
        ColumnDecider x = new ColumnDecider();
        x.clear();
        written(x, 0);
        x.clear();
        x.clear();
        written(x, 0);
        ColumnDecider full = withSpaces(256);
        full.clear();
        written(full, 0);
        Check.due("write to what was full", full.write(Check.eight("a=1")), true);
        Check.due("compile() then", Check.answer(full::compile), 4);
        full.clear();
        Check.due("place() stays", full.place(), 3);
        Check.due("the machine stays", full.variables(), 1);
        Check.due("formed() stays", full.formed(), 4);
    }

    private static void compileOfNoFormula() {
        Check.sentence("Promise 4: IllegalArgumentException: the text is no FORMULA (place() tells where); there is no machine");
        for (String text : new String[] {"", "   ", "a", "a=1&", "a+b+c+d+e=0&", "(9999a=b", "a:0", "a=12345"}) {
            ColumnDecider x = Check.compiled("a=1");
            x.keep(0);
            x.value(0, 5);
            Check.due("compile of \"" + text + "\"", Check.compile(x, text), Check.ARGUMENT);
            Check.due("variables()", x.variables(), -1);
            Check.due("keep(1)", x.keep(1), false);
            Check.due("valueOf(0) stays", x.valueOf(0), 5);
            Check.due("a compile() that goes well then", Check.compile(x, "a=1"), 4);
            Check.due("what is kept stays", x.same(0), 1);
        }
    }

    private static void place() {
        Check.sentence("Promise 5: 0 before");
        ColumnDecider x = new ColumnDecider();
        Check.due("place() of a new one", x.place(), 0);
        x.write(Check.eight("a=1"));
        Check.due("place() before compile()", x.place(), 0);
        Check.sentence("Promise 5: the text's length if it went well");
        Check.answer(x::compile);
        Check.due("place()", x.place(), 3);
        x.write(Check.eight("  "));
        Check.due("place() is of the latest compile()", x.place(), 3);
        Check.answer(x::compile);
        Check.due("place() with spaces behind", x.place(), 5);
        x.clear();
        Check.due("place() after clear()", x.place(), 5);
        Check.answer(x::compile);
        Check.due("place() of an empty text", x.place(), 0);
        Check.sentence("Promise 4: TOO LARGE (place() is the text's length)");
        Check.due("compile()", Check.compile(x, " a+b+c+d+e=0 "), Check.STATE);
        Check.due("place()", x.place(), 13);
    }
}
