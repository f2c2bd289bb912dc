import java.util.HashSet;
import java.util.Random;
import java.util.Set;

/** Promises 4 and 5: faults and their places, by hand and against all readings of random texts. */
public final class FaultsTest {
    static final int FINE = -1;

    private static void fault(String text, int place) {
        ColumnDecider x = new ColumnDecider();
        long got = Check.compile(x, text);
        if (place == FINE) {
            Check.due("\"" + text + "\": compile() finds no fault", got != Check.ARGUMENT, true);
            Check.due("\"" + text + "\": place()", x.place(), text.length());
        } else {
            Check.due("\"" + text + "\": compile()", got, Check.ARGUMENT);
            Check.due("\"" + text + "\": place()", x.place(), place);
        }
    }

    private static void byHand() {
        fault("", 0);
        fault("   ", 3);
        fault("a", 1);
        fault("a = ", 4);
        fault("a=1 ", FINE);
        fault("x=1", 0);
        fault("i=1", 0);
        fault("h=1", FINE);
        fault("A=1", 1);
        fault("a=1)", 3);
        fault("(a=1", 4);
        fault("(a=1))", 5);
        fault("()", 1);
        fault("(a+b)=c", 4);
        fault("a=1&", 4);
        fault("a=1&&a=1", 4);
        fault("a=1||a=1", 4);
        fault("a=1 a=1", 5);
        fault("a=1 2", 4);
        fault("a=b2", 3);
        fault("a=2 b", FINE);
        fault("a=ab", 3);
        fault("a=--1", 3);
        fault("a=-1", FINE);
        fault("-a=-1-b", FINE);
        fault("+a=1", 0);
        fault("a=1+-1", 4);
        fault("a=1-", 4);
    }

    private static void signs() {
        fault("a=>1", 1);
        fault("a= >1", 3);
        fault("a=1=>a=2", FINE);
        fault("a=1= >a=2", 3);
        fault("a=1=>=2", 5);
        fault("a<=>1", 3);
        fault("a< =1", 3);
        fault("a<=1", FINE);
        fault("a>=1", FINE);
        fault("a!=1", FINE);
        fault("a==1", 2);
        fault("a=<1", 2);
        fault("a<>1", 2);
        fault("a<1<2", 3);
        fault("a! =1", 1);
        fault("!=1", 0);
        fault("! =1", 2);
        fault("!!=1", 1);
        fault("a=1!=2", 3);
        fault("a=1!", 3);
        fault("a=!1", 2);
        fault("!a=1", FINE);
        fault("a&b", 1);
        fault("a~1", 1);
        fault("a=1.", 3);
    }

    private static void quantifiers() {
        fault("E", 1);
        fault("E.", 1);
        fault("Ea", 2);
        fault("Ea a=1", 3);
        fault("Ea.", 3);
        fault("E a . a=1", FINE);
        fault("Eab.a=1", 2);
        fault("EA.a=1", 1);
        fault("E5.a=1", 1);
        fault("a=1&Ea.a=1|a=2=>a=3", FINE);
        fault("a=Ea.a=1", 2);
    }

    private static void numbers() {
        fault("a=9999", FINE);
        fault("a=12345", 6);
        fault("a=00000", 6);
        fault("a=0000", FINE);
        fault("0a=0", FINE);
        fault("12345", 4);
        fault("a12345", 1);
        fault("a:7", FINE);
        fault("a:0", 2);
        fault("a: 000 ", 3);
        fault("a:0007", FINE);
        fault("a:00007", 6);
        fault("a:70000", 6);
        fault("a:0b", 2);
        fault("a:3b", 3);
        fault("a:3+1", 3);
        fault("a:-3", 2);
        fault("a:b", 2);
        fault("a:", 2);
        fault("a:3:3", 3);
        fault("a=3:3", 3);
        fault("a+1-2b:3", FINE);
    }

    /** Of the texts before what is inside and behind it 20 are fine, and one more is too many. */
    private static void open(String sign, int signAt, String inside, String end) {
        fault(sign.repeat(20) + inside + end.repeat(20), FINE);
        fault(sign.repeat(21) + inside + end.repeat(21), 20 * sign.length() + signAt);
    }

    private static void opens() {
        open("!", 0, "1=1", "");
        open("(", 0, "1=1", ")");
        open("Ea.", 0, "1=1", "");
        open(" A b .", 1, "1=1", "");
        open("1=1=>", 3, "1=1", "");
        String eighteen = "!(Ea.".repeat(6);
        fault(eighteen + "1=1=>1=1=>1=1))))))", FINE);
        fault(eighteen + "1=1=>1=1=>1=1=>1=1))))))", 43);
        fault(eighteen + "1=1=>1=1=>!1=1))))))", 40);
        fault(eighteen + "1=1=>1=1=>(1=1)))))))", 40);
        fault(eighteen + "1=1=>1=1=> Ea.1=1))))))", 41);
        fault(eighteen + "!!1=1))))))", FINE);
        fault(eighteen + "!!(1=1)))))))", 32);
        // What has ended is open no more.
        fault("!!!!!!!!!!!!!!!!!!!!1=1&!!!!!!!!!!!!!!!!!!!!1=1|((((((((((((((((((((1=1))))))))))))))))))))", FINE);
        fault("(!!!!!!!!!!!!!!!!!!!1=1)=>!!!!!!!!!!!!!!!!!!!1=1", FINE);
        fault("(!!!!!!!!!!!!!!!!!!!1=1)=>!!!!!!!!!!!!!!!!!!!!1=1", 45);
        fault("Ea.".repeat(20) + "1=1&!1=1", 64);
        fault("(" + "Ea.".repeat(19) + "1=1)&!1=1", FINE);
        // No formula goes on with the sign, whatever stands behind it.
        fault("!!!!!!!!!!!!!!!!!!!!E", 20);
        fault("!!!!!!!!!!!!!!!!!!!!E)", 20);
        fault("!!!!!!!!!!!!!!!!!!!!!=1", 20);
    }

    /**
     * All readings of a text at once, each a stack of what is still due, its top first: F, O, B, P,
     * C, S, T formula .. part, in small letters what may follow them, # the end of an open thing, $ that of a quantifier's
     * formula, which goes as far as it goes: to a parenthesis or to the end of the text.
     */
    private static Set<String> readings(Set<String> stacks) {
        Set<String> ready = new HashSet<>();
        for (String stack : stacks) {
            expand(stack, ready);
        }
        return ready;
    }

    private static final String[] RULES = {
        "F>Of", "f>", "f>iF#", "O>Bo", "o>", "o>|Bo", "B>Pb", "b>", "b>&Pb", "P>!P#", "P>QV.F$",
        "P>(F)#", "P>C", "C>Sc", "c>=S", "c>:Z", "S>Ts", "S>-Ts", "s>", "s>+Ts", "s>-Ts",
        "T>Nv", "T>V", "v>", "v>V", "#>"};

    private static void expand(String stack, Set<String> ready) {
        boolean any = false;
        for (String rule : RULES) {
            if (!stack.isEmpty() && rule.charAt(0) == stack.charAt(0)) {
                any = true;
                expand(rule.substring(2) + stack.substring(1), ready);
            }
        }
        if (!any) {
            ready.add(stack);
        }
    }

    private static Set<String> after(Set<String> stacks, char kind) {
        Set<String> on = new HashSet<>();
        for (String stack : stacks) {
            boolean number = kind == 'N' && stack.startsWith("Z");
            if (!stack.isEmpty() && (stack.charAt(0) == kind || number)) {
                String rest = stack.substring(1);
                if (rest.chars().filter(c -> c == '#' || c == '$').count() <= 20) {
                    on.add(rest);
                }
            }
        }
        return readings(on);
    }

    private static Set<String> quantifiersEnd(Set<String> stacks) {
        Set<String> ended = stacks;
        for (int i = 0; i <= 20; i++) {
            Set<String> on = new HashSet<>();
            for (String stack : ended) {
                on.add(stack.startsWith("$") ? stack.substring(1) : stack);
            }
            ended = readings(on);
        }
        return ended;
    }

    private static int end(String text, int at) {
        int end = at;
        while (end < text.length() && Character.isDigit(text.charAt(end))) {
            end++;
        }
        String two = text.substring(at, Math.min(at + 2, text.length()));
        boolean isTwo = two.equals("=>") || two.equals("<=") || two.equals(">=") || two.equals("!=");
        return end > at ? end : at + (isTwo ? 2 : 1);
    }

    private static char kind(String sign) {
        char c = sign.charAt(0);
        if (sign.equals("=>")) {
            return 'i';
        }
        if (sign.length() == 2 && !Character.isDigit(c) || "=<>".indexOf(c) >= 0) {
            return '=';
        }
        if (Character.isDigit(c)) {
            return 'N';
        }
        if (c >= 'a' && c <= 'h') {
            return 'V';
        }
        return c == 'E' || c == 'A' ? 'Q' : "!|&()+-:.".indexOf(c) >= 0 ? c : '?';
    }

    static int dueFault(String text) {
        Set<String> stacks = readings(Set.of("F"));
        int at = 0;
        while (at < text.length()) {
            if (text.charAt(at) == ' ') {
                at++;
                continue;
            }
            String sign = text.substring(at, end(text, at));
            boolean divisor = stacks.stream().anyMatch(s -> s.startsWith("Z"));
            stacks = after(sign.equals(")") ? quantifiersEnd(stacks) : stacks, kind(sign));
            if (stacks.isEmpty()) {
                return at;
            }
            if (kind(sign) == 'N' && sign.length() > 4) {
                return at + 4;
            }
            if (divisor && Integer.parseInt(sign) == 0) {
                return at;
            }
            at += sign.length();
        }
        return quantifiersEnd(stacks).contains("") ? FINE : text.length();
    }

    private static final String[] PIECES = {
        "a", "b", "h", "i", "0", "1", "23", "4567", "00", "=", "<", ">", "!", ":", ":", "|", "&", "(", ")",
        "+", "-", ".", "E", "A", "Ea.", "Ab.", "=>", "<=", ">=", "!=", " ", "  ", "a=1", "b:2", "%", "(!"};

    private static final String[] SOUND = {
        "a + b = 3", "A a. E b. b > a & b:3", "a >= 3 & !(a:4) & a <= 20 | 3a = -9",
        "!!!!!!!!!!!!!!!!!!!1=1&(Ea.a<=1=>a!=2)", "(((((((((((((((((((a=1)))))))))))))))))))",
        "1=1=>1=1=>1=1=>(1=1=>1=1=>1=1=>1=1)|!(0:1)=>1=1=>1=1=>1=1=>1=1=>1=1=>1=1=>1=1=>1=1=>1=1",
        "Ea.Aa.!Ea.Aa.!(Ea.Aa.!Ea.Aa.!(Ea.Aa.!Ea.Aa.a=1))", "2a-3b+4<=-5a+6-7b"};

    static String anyText(Random r) {
        StringBuilder text = new StringBuilder();
        if (r.nextInt(3) > 0) {
            text.append(SOUND[r.nextInt(SOUND.length)]);
        }
        for (int i = r.nextInt(4); i >= 0; i--) {
            int at = r.nextInt(text.length() + 1);
            if (at < text.length() && r.nextInt(3) == 0) {
                text.deleteCharAt(at);
            } else {
                text.insert(at, PIECES[r.nextInt(PIECES.length)]);
            }
        }
        return text.toString();
    }

    public static void main(String[] args) {
        long seed = args.length > 0 ? Long.parseLong(args[0]) : 1;
        int times = args.length > 1 ? Integer.parseInt(args[1]) : 20000;
        byHand();
        signs();
        quantifiers();
        numbers();
        opens();
        Random r = new Random(seed);
        int fine = 0;
        for (int i = 0; i < times; i++) {
            String text = anyText(r);
            int due = dueFault(text);
            fault(text, due);
            fine += due == FINE ? 1 : 0;
        }
        System.out.println(times + " texts, " + fine + " of them formulas");
        Check.end();
    }
}
