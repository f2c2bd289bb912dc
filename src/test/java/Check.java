import java.util.function.LongSupplier;

/** What the tests share: writing a text, comparing answers, ending with 1 if one was wrong. */
final class Check {
    /** Stands for an exception where an answer is due. */
    static final long ARGUMENT = Long.MIN_VALUE + 1;
    static final long STATE = Long.MIN_VALUE + 2;
    static final long OTHER = Long.MIN_VALUE + 3;

    private static int wrong;
    private static int asked;
    private static int sentences;
    private static String sentence = "";

    private Check() {
    }

    /** Names the document's sentence that the answers from here on are about. */
    static void sentence(String words) {
        sentence = words;
        sentences++;
    }

    static void due(String what, long got, long want) {
        asked++;
        if (got != want) {
            wrong++;
            String about = sentence.isEmpty() ? "" : " [" + sentence + "]";
            System.out.println(what + " answered " + told(got) + ", due is " + told(want) + about);
        }
    }

    static void due(String what, boolean got, boolean want) {
        due(what, got ? 1 : 0, want ? 1 : 0);
    }

    private static String told(long answer) {
        if (answer == ARGUMENT) {
            return "throws.IllegalArgumentException";
        }
        if (answer == STATE) {
            return "throws.IllegalStateException";
        }
        return answer == OTHER ? "throws another exception" : Long.toString(answer);
    }

    static long answer(LongSupplier call) {
        try {
            return call.getAsLong();
        } catch (IllegalArgumentException e) {
            return ARGUMENT;
        } catch (IllegalStateException e) {
            return STATE;
        } catch (RuntimeException e) {
            return OTHER;
        }
    }

    static long eight(String part) {
        long eight = 0;
        for (int i = 0; i < part.length(); i++) {
            eight = eight << 8 | part.charAt(i);
        }
        return eight;
    }

    static void writeText(ColumnDecider x, String text) {
        x.clear();
        for (int i = 0; i < text.length(); i += 8) {
            String part = text.substring(i, Math.min(i + 8, text.length()));
            due("write of \"" + part + "\"", x.write(eight(part)), true);
        }
    }

    static long compile(ColumnDecider x, String text) {
        writeText(x, text);
        return answer(x::compile);
    }

    static ColumnDecider compiled(String text) {
        ColumnDecider x = new ColumnDecider();
        long states = compile(x, text);
        due("compile of \"" + text + "\" goes well", states > 0, true);
        return x;
    }

    static void end() {
        String about = sentences == 0 ? "" : ", of " + sentences + " sentences";
        System.out.println(asked + " answers looked at" + about + ", " + wrong + " not as due");
        if (wrong != 0) {
            System.exit(1);
        }
    }
}
