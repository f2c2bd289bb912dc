/**
 * Turns formulas over whole numbers into machines that read the numbers column by column, bit by
 * bit; decides them, counts and finds what makes them true.
 */
public final class ColumnDecider {
    private static final int NONE = -1;
    private static final int TEXT_MOST = 256;
    private static final int FIRST_CHARACTER = 32;
    private static final int LAST_CHARACTER = 126;
    private static final int BYTES = 8;
    private static final int NAMES = 8;
    private static final int VARIABLES_MOST = 4;
    private static final int LETTERS_MOST = 16;
    private static final int FORMED_MOST = 1000;
    private static final int STATES_MOST = 96;
    private static final int OPEN_MOST = 20;
    private static final int HOLDS_COLUMNS = 64;
    private static final int COUNT_MOST = 12;
    private static final int PLACES = 4;

    private static final int BOTH = 0;
    private static final int EITHER = 1;
    private static final int IF = 2;

    private final Reader reader = new Reader();
    private final Builder builder = new Builder();
    private final Machine machine = new Machine();
    private final Machine[] kept = new Machine[PLACES];
    private final long[] values = new long[NAMES];
    private long[] ways = new long[STATES_MOST];
    private long[] waysBefore = new long[STATES_MOST];
    private int formedInAll;

    public ColumnDecider() {
    }

    public boolean write(long eight) {
        int more = 0;
        for (int i = 0; i < BYTES; i++) {
            int c = byteOf(eight, i);
            if (c != 0) {
                if (c < FIRST_CHARACTER || c > LAST_CHARACTER) {
                    return false;
                }
                more++;
            }
        }
        if (reader.length + more > TEXT_MOST) {
            return false;
        }
        for (int i = 0; i < BYTES; i++) {
            int c = byteOf(eight, i);
            if (c != 0) {
                reader.text[reader.length] = (char) c;
                reader.length++;
            }
        }
        return true;
    }

    private static int byteOf(long eight, int i) {
        return (int) (eight >>> (8 * (BYTES - 1 - i))) & 255;
    }

    public void clear() {
        reader.length = 0;
    }

    public int compile() throws IllegalArgumentException, IllegalStateException {
        // Set first: what throws below leaves no machine and nothing formed.
        machine.states = 0;
        formedInAll = 0;
        reader.read();
        builder.build(reader.plan, machine);
        formedInAll = builder.formed;
        return machine.states;
    }

    public int place() {
        return reader.place;
    }

    public int formed() {
        return formedInAll;
    }

    public int variables() {
        return machine.states == 0 ? NONE : machine.names;
    }

    public int next(int state, int letter) {
        if (!hasState(state) || letter < 0 || letter >= machine.letters()) {
            return NONE;
        }
        return machine.step[state * LETTERS_MOST + letter];
    }

    public int accepts(int state) {
        if (!hasState(state)) {
            return NONE;
        }
        return machine.good[state] ? 1 : 0;
    }

    private boolean hasState(int state) {
        return state >= 0 && state < machine.states;
    }

    public boolean value(int v, long x) {
        if (v < 0 || v >= NAMES) {
            return false;
        }
        values[v] = x;
        return true;
    }

    public boolean holds() throws IllegalStateException {
        needMachine();
        int state = 0;
        for (int column = 0; column < HOLDS_COLUMNS; column++) {
            state = machine.step[state * LETTERS_MOST + letterOfValues(column)];
        }
        return machine.good[state];
    }

    private int letterOfValues(int column) {
        int letter = 0;
        int bit = 0;
        for (int v = 0; v < NAMES; v++) {
            if (machine.hasName(v)) {
                letter |= (int) (values[v] >>> column & 1L) << bit;
                bit++;
            }
        }
        return letter;
    }

    public long count(int n) throws IllegalArgumentException, IllegalStateException {
        if (n < 1 || n > COUNT_MOST) {
            throw new IllegalArgumentException("columns");
        }
        needMachine();
        for (int s = 0; s < machine.states; s++) {
            ways[s] = machine.good[s] ? 1 : 0;
        }
        for (int column = 0; column < n; column++) {
            countOneColumnMore();
        }
        return ways[0];
    }

    private void countOneColumnMore() {
        long[] before = ways;
        ways = waysBefore;
        waysBefore = before;
        int letters = machine.letters();
        for (int s = 0; s < machine.states; s++) {
            long sum = 0;
            for (int letter = 0; letter < letters; letter++) {
                sum += before[machine.step[s * LETTERS_MOST + letter]];
            }
            ways[s] = sum;
        }
    }

    public int find() throws IllegalStateException {
        needMachine();
        // States are numbered as they are first come to, so the lowest one that accepts is where
        // the shortest and first word ends, and the first way to each state is on such a word.
        int state = machine.lowestGood();
        int columns = 0;
        for (int i = 0; i < STATES_MOST && state != 0; i++) {
            int way = machine.firstWayTo(state);
            readUpwards(way % LETTERS_MOST, columns == 0);
            state = way / LETTERS_MOST;
            columns++;
        }
        return columns;
    }

    private void readUpwards(int letter, boolean signs) {
        int rest = letter;
        for (int v = 0; v < NAMES; v++) {
            if (machine.hasName(v)) {
                int bit = rest & 1;
                rest >>= 1;
                values[v] = signs ? -bit : 2 * values[v] + bit;
            }
        }
    }

    public long valueOf(int v) {
        return v < 0 || v >= NAMES ? 0 : values[v];
    }

    public boolean keep(int k) {
        if (machine.states == 0 || k < 0 || k >= PLACES) {
            return false;
        }
        if (kept[k] == null) {
            kept[k] = new Machine();
        }
        kept[k].become(machine);
        return true;
    }

    public int same(int k) {
        if (machine.states == 0 || !isKept(k)) {
            return NONE;
        }
        return machine.isLike(kept[k]) ? 1 : 0;
    }

    public int join(int k, int how) throws IllegalArgumentException, IllegalStateException {
        formedInAll = 0;
        if (how < BOTH || how > IF || !isKept(k)) {
            throw new IllegalArgumentException("how or place");
        }
        needMachine();
        formedInAll = builder.pairInto(machine, kept[k], how);
        return machine.states;
    }

    private boolean isKept(int k) {
        return k >= 0 && k < PLACES && kept[k] != null;
    }

    private void needMachine() {
        if (machine.states == 0) {
            throw new IllegalStateException("no machine");
        }
    }

    /** The machine of a formula; without states it is not there. */
    private static final class Machine {
        int names;
        int states;
        final int[] step = new int[STATES_MOST * LETTERS_MOST];
        final boolean[] good = new boolean[STATES_MOST];

        int letters() {
            return 1 << Integer.bitCount(names);
        }

        boolean hasName(int v) {
            return (names >> v & 1) != 0;
        }

        void become(Machine other) {
            names = other.names;
            states = other.states;
            System.arraycopy(other.step, 0, step, 0, states * LETTERS_MOST);
            System.arraycopy(other.good, 0, good, 0, states);
        }

        boolean isLike(Machine other) {
            if (names != other.names || states != other.states) {
                return false;
            }
            int letters = letters();
            for (int s = 0; s < states; s++) {
                if (good[s] != other.good[s]) {
                    return false;
                }
                for (int i = s * LETTERS_MOST; i < s * LETTERS_MOST + letters; i++) {
                    if (step[i] != other.step[i]) {
                        return false;
                    }
                }
            }
            return true;
        }

        /** 0 if none accepts: state 0 never does. */
        int lowestGood() {
            for (int s = 0; s < states; s++) {
                if (good[s]) {
                    return s;
                }
            }
            return 0;
        }

        /** The state and the letter, as an index of step, by which a state is first come to. */
        int firstWayTo(int state) {
            int letters = letters();
            for (int from = 0; from < state; from++) {
                for (int letter = 0; letter < letters; letter++) {
                    if (step[from * LETTERS_MOST + letter] == state) {
                        return from * LETTERS_MOST + letter;
                    }
                }
            }
            return 0;
        }
    }

    /** How a text's formula is made of comparisons: the parts before the whole, left before right. */
    private static final class Plan {
        static final int COMPARE = 0;
        static final int DENY = 1;
        static final int EXIST = 2;
        static final int PAIR = 3;

        static final int EQUAL = 0;
        static final int AT_MOST = 1;
        static final int DIVIDED = 2;

        // A row: the numbers of the variables a .. h, the number c, what is asked, the divisor.
        static final int C = NAMES;
        static final int ASKED = NAMES + 1;
        static final int DIVISOR = NAMES + 2;
        static final int ROW = NAMES + 3;
        // The shortest comparison and the sign behind it are four characters.
        static final int ROWS_MOST = TEXT_MOST / 4 + 1;

        int deeds;
        int rows;
        // Every deed has a character of its own in the text.
        final int[] deed = new int[TEXT_MOST];
        final int[] what = new int[TEXT_MOST];
        final int[] row = new int[ROWS_MOST * ROW];

        void empty() {
            deeds = 0;
            rows = 0;
        }

        void add(int newDeed, int newWhat) {
            if (deeds < TEXT_MOST) {
                deed[deeds] = newDeed;
                what[deeds] = newWhat;
                deeds++;
            }
        }

        /** Where a new row of zeros begins. */
        int newRow() {
            if (rows < ROWS_MOST) {
                rows++;
            }
            int begin = (rows - 1) * ROW;
            for (int i = 0; i < ROW; i++) {
                row[begin + i] = 0;
            }
            return begin;
        }
    }

    /** Holds the text and reads it, sign by sign, into a plan, or finds its fault. */
    private static final class Reader {
        private static final int END = 0;
        private static final int TWO = 256;
        private static final int IMPLIES = TWO + '=';
        private static final int LESS_EQUAL = TWO + '<';
        private static final int MORE_EQUAL = TWO + '>';
        private static final int UNEQUAL = TWO + '!';
        private static final int DIGITS_MOST = 4;

        final char[] text = new char[TEXT_MOST];
        int length;
        int place;
        final Plan plan = new Plan();
        private int at;
        // A sign's character, or that of its first and TWO.
        private int sign;

        void read() {
            plan.empty();
            goTo(0);
            formula(0);
            if (sign != END) {
                fault(at);
            }
            place = length;
        }

        private void fault(int where) {
            place = where;
            throw new IllegalArgumentException("no formula");
        }

        /** Goes to the first sign from there on. */
        private void goTo(int from) {
            at = from;
            while (at < length && text[at] == ' ') {
                at++;
            }
            sign = at < length ? text[at] : END;
            char second = at + 1 < length ? text[at + 1] : ' ';
            boolean twoWithEqual = sign == '<' || sign == '>' || sign == '!';
            if (sign == '=' && second == '>' || twoWithEqual && second == '=') {
                sign += TWO;
            }
        }

        private void pass() {
            goTo(at + (sign >= TWO ? 2 : 1));
        }

        private int oneMoreOpen(int open) {
            if (open >= OPEN_MOST) {
                fault(at);
            }
            return open + 1;
        }

        private void formula(int open) {
            either(open);
            if (sign == IMPLIES) {
                int inside = oneMoreOpen(open);
                pass();
                formula(inside);
                plan.add(Plan.PAIR, IF);
            }
        }

        private void either(int open) {
            both(open);
            for (int i = 0; i < TEXT_MOST && sign == '|'; i++) {
                pass();
                both(open);
                plan.add(Plan.PAIR, EITHER);
            }
        }

        private void both(int open) {
            plain(open);
            for (int i = 0; i < TEXT_MOST && sign == '&'; i++) {
                pass();
                plain(open);
                plan.add(Plan.PAIR, BOTH);
            }
        }

        private void plain(int open) {
            if (sign == '!') {
                int inside = oneMoreOpen(open);
                pass();
                plain(inside);
                plan.add(Plan.DENY, 0);
            } else if (sign == '(') {
                int inside = oneMoreOpen(open);
                pass();
                formula(inside);
                passOnly(')');
            } else if (sign == 'E' || sign == 'A') {
                quantified(open);
            } else {
                comparison();
            }
        }

        private void passOnly(char only) {
            if (sign != only) {
                fault(at);
            }
            pass();
        }

        private void quantified(int open) {
            boolean all = sign == 'A';
            int inside = oneMoreOpen(open);
            pass();
            int v = sign - 'a';
            if (!isVariable()) {
                fault(at);
            }
            pass();
            passOnly('.');
            formula(inside);
            if (all) {
                plan.add(Plan.DENY, 0);
            }
            plan.add(Plan.EXIST, v);
            if (all) {
                plan.add(Plan.DENY, 0);
            }
        }

        private boolean isVariable() {
            return sign >= 'a' && sign < 'a' + NAMES;
        }

        private boolean isDigit() {
            return sign >= '0' && sign <= '9';
        }

        private void comparison() {
            int row = plan.newRow();
            sum(row, 1);
            int asked = sign;
            if (asked == ':') {
                pass();
                divisor(row);
            } else {
                if (asked != '=' && asked != UNEQUAL && !isOrder(asked)) {
                    fault(at);
                }
                pass();
                sum(row, -1);
                if (isOrder(asked)) {
                    order(row, asked);
                }
            }
            plan.add(Plan.COMPARE, row);
            if (asked == UNEQUAL) {
                plan.add(Plan.DENY, 0);
            }
        }

        private static boolean isOrder(int asked) {
            return asked == '<' || asked == '>' || asked == LESS_EQUAL || asked == MORE_EQUAL;
        }

        private void divisor(int row) {
            int where = at;
            int n = number();
            if (n == 0) {
                fault(where);
            }
            plan.row[row + Plan.ASKED] = Plan.DIVIDED;
            plan.row[row + Plan.DIVISOR] = n;
        }

        /** Makes of left less right what is to be 0 or less. */
        private void order(int row, int asked) {
            plan.row[row + Plan.ASKED] = Plan.AT_MOST;
            if (asked == '>' || asked == MORE_EQUAL) {
                for (int i = row; i <= row + Plan.C; i++) {
                    plan.row[i] = -plan.row[i];
                }
            }
            if (asked == '<' || asked == '>') {
                plan.row[row + Plan.C]++;
            }
        }

        private void sum(int row, int side) {
            int times = side;
            if (sign == '-') {
                times = -side;
                pass();
            }
            boolean more = true;
            for (int i = 0; i < TEXT_MOST && more; i++) {
                int many = isVariable() ? 1 : number();
                int to = Plan.C;
                if (isVariable()) {
                    to = sign - 'a';
                    pass();
                }
                plan.row[row + to] += times * many;
                more = sign == '+' || sign == '-';
                if (more) {
                    times = sign == '+' ? side : -side;
                    pass();
                }
            }
        }

        private int number() {
            if (!isDigit()) {
                fault(at);
            }
            int n = 0;
            int end = at;
            while (end < length && text[end] >= '0' && text[end] <= '9') {
                if (end - at == DIGITS_MOST) {
                    fault(end);
                }
                n = 10 * n + (text[end] - '0');
                end++;
            }
            goTo(end);
            return n;
        }
    }

    /** Makes the machine that a plan asks for. */
    private static final class Builder {
        // For each thing open, and for the whole, the lefts of | and of & may wait; and the last.
        private static final int STACK_MOST = 2 * (OPEN_MOST + 1) + 1;

        int formed;
        private final Machine[] stack = new Machine[STACK_MOST];
        private int depth;
        private final Rough rough = new Rough();
        private final Merger merger = new Merger();
        private final Comparison comparison = new Comparison();
        private final Denial denial = new Denial();
        private final Shadow shadow = new Shadow();
        private final Pair pair = new Pair();

        void build(Plan plan, Machine result) {
            formed = 0;
            depth = 0;
            for (int i = 0; i < plan.deeds; i++) {
                Maker maker = makerOf(plan, i);
                if (maker != null && depth > 0) {
                    formed += form(maker, stack[depth - 1]);
                }
            }
            if (depth > 0) {
                result.become(stack[depth - 1]);
            }
        }

        /** Readies the maker of what is on top of the stack then; null if that is there as it is. */
        private Maker makerOf(Plan plan, int i) {
            int what = plan.what[i];
            if (plan.deed[i] == Plan.COMPARE) {
                push();
                comparison.take(plan.row, what);
                return comparison;
            }
            if (plan.deed[i] == Plan.PAIR && depth > 1) {
                depth--;
                pair.take(stack[depth - 1], stack[depth], what);
                return pair;
            }
            if (plan.deed[i] == Plan.DENY && depth > 0) {
                denial.take(stack[depth - 1]);
                return denial;
            }
            if (plan.deed[i] == Plan.EXIST && depth > 0 && stack[depth - 1].hasName(what)) {
                shadow.take(stack[depth - 1], what);
                return shadow;
            }
            return null;
        }

        private void push() {
            if (depth < STACK_MOST) {
                if (stack[depth] == null) {
                    stack[depth] = new Machine();
                }
                depth++;
            }
        }

        /** The left machine becomes that of both; how many rough states were formed. */
        int pairInto(Machine left, Machine right, int how) {
            pair.take(left, right, how);
            return form(pair, left);
        }

        private int form(Maker maker, Machine result) {
            rough.form(maker);
            merger.merge(rough);
            // The maker may have read the result's old states: they are written over only now.
            merger.writeTo(result, rough);
            result.names = maker.names;
            return rough.states;
        }
    }

    /** The states formed of a rough machine, each known by two numbers that its maker chooses. */
    private static final class Rough {
        private static final int TABLE_BITS = 11;
        private static final int TABLE = 1 << TABLE_BITS;
        private static final long SPREAD_ONE = 0x9E3779B97F4A7C15L;
        private static final long SPREAD_TWO = 0xC2B2AE3D27D4EB4FL;

        int letters;
        int states;
        final int[] step = new int[FORMED_MOST * LETTERS_MOST];
        final boolean[] good = new boolean[FORMED_MOST];
        final long[] one = new long[FORMED_MOST];
        final long[] two = new long[FORMED_MOST];
        // Where a state is looked up: its number and one more, 0 for none.
        private final int[] table = new int[TABLE];
        private final int[] slotOf = new int[FORMED_MOST];

        /** Forms the states in the order in which they are first come to. */
        void form(Maker maker) {
            forget();
            letters = 1 << Integer.bitCount(maker.names);
            maker.begin(this);
            for (int s = 0; s < FORMED_MOST && s < states; s++) {
                for (int letter = 0; letter < letters; letter++) {
                    step[s * LETTERS_MOST + letter] = maker.go(this, s, letter);
                }
            }
        }

        private void forget() {
            for (int s = 0; s < states; s++) {
                table[slotOf[s]] = 0;
            }
            states = 0;
        }

        /** The state of these numbers, formed if it is new. */
        int come(long first, long second, boolean accepts) {
            int slot = lookUp(first, second);
            if (table[slot] != 0) {
                return table[slot] - 1;
            }
            if (states >= FORMED_MOST) {
                throw new IllegalStateException("too large");
            }
            one[states] = first;
            two[states] = second;
            good[states] = accepts;
            slotOf[states] = slot;
            states++;
            table[slot] = states;
            return states - 1;
        }

        private int lookUp(long first, long second) {
            long mixed = (first * SPREAD_ONE ^ second) * SPREAD_TWO;
            int slot = (int) (mixed >>> (64 - TABLE_BITS));
            for (int tries = 0; tries < TABLE; tries++) {
                int s = table[slot] - 1;
                if (s < 0 || one[s] == first && two[s] == second) {
                    return slot;
                }
                slot = (slot + 1) % TABLE;
            }
            return slot;
        }
    }

    /** Puts the states of a rough machine together that accept the same from there on. */
    private static final class Merger {
        private int[] kind = new int[FORMED_MOST];
        private int[] finer = new int[FORMED_MOST];
        private int kinds;
        // For a state's kind and that of its next: the finer kind and one more, 0 for none yet.
        private final int[] kindOfPair = new int[STATES_MOST * STATES_MOST];
        private final int[] pairs = new int[STATES_MOST];

        void merge(Rough rough) {
            boolean anyGood = false;
            for (int s = 0; s < rough.states; s++) {
                kind[s] = rough.good[s] ? 1 : 0;
                anyGood |= rough.good[s];
            }
            kinds = anyGood ? 2 : 1;
            int before = 0;
            for (int i = 0; i <= STATES_MOST && kinds != before; i++) {
                before = kinds;
                for (int letter = 0; letter < rough.letters; letter++) {
                    split(rough, letter);
                }
            }
        }

        /** Splits the kinds by those of the next states; numbers them as they first stand. */
        private void split(Rough rough, int letter) {
            int made = 0;
            for (int s = 0; s < rough.states && made <= STATES_MOST; s++) {
                int pair = kind[s] * STATES_MOST + kind[rough.step[s * LETTERS_MOST + letter]];
                if (kindOfPair[pair] == 0) {
                    if (made < STATES_MOST) {
                        pairs[made] = pair;
                        kindOfPair[pair] = made + 1;
                    }
                    made++;
                }
                finer[s] = kindOfPair[pair] - 1;
            }
            for (int i = 0; i < made && i < STATES_MOST; i++) {
                kindOfPair[pairs[i]] = 0;
            }
            if (made > STATES_MOST) {
                throw new IllegalStateException("too large");
            }
            int[] old = kind;
            kind = finer;
            finer = old;
            kinds = made;
        }

        /**
         * Rough states stand in the order in which they are first come to, and kinds are numbered
         * by their first states: so they have the numbers due to the machine's states.
         */
        void writeTo(Machine result, Rough rough) {
            int written = 0;
            for (int s = 0; s < rough.states && written < kinds; s++) {
                if (kind[s] == written) {
                    result.good[written] = rough.good[s];
                    for (int letter = 0; letter < rough.letters; letter++) {
                        int to = kind[rough.step[s * LETTERS_MOST + letter]];
                        result.step[written * LETTERS_MOST + letter] = to;
                    }
                    written++;
                }
            }
            result.states = kinds;
        }
    }

    /** Tells the rough states of one machine. */
    private abstract static class Maker {
        int names;

        abstract void begin(Rough rough);

        abstract int go(Rough rough, int state, int letter);

        final void takeNames(int newNames) {
            if (Integer.bitCount(newNames) > VARIABLES_MOST) {
                throw new IllegalStateException("too large");
            }
            names = newNames;
        }

        /** The bits of a letter of some variables that belong to fewer of them. */
        static int narrow(int letter, int some, int fewer) {
            int narrowed = 0;
            int rest = letter;
            int bit = 0;
            for (int v = 0; v < NAMES; v++) {
                if ((fewer >> v & 1) != 0) {
                    narrowed |= (rest & 1) << bit;
                    bit++;
                }
                if ((some >> v & 1) != 0) {
                    rest >>= 1;
                }
            }
            return narrowed;
        }
    }

    /** Rough states of a comparison: a number (or two in one) and a mark. */
    private static final class Comparison extends Maker {
        private static final int MARK = 1;
        private static final int LOST = 2;
        // More than any divisor, so that two rests go into one number.
        private static final int RESTS = 10000;

        private int asked;
        private int divisor;
        private int c;
        private final int[] gain = new int[LETTERS_MOST];

        void take(int[] row, int begin) {
            int used = 0;
            for (int v = 0; v < NAMES; v++) {
                if (row[begin + v] != 0) {
                    used |= 1 << v;
                }
            }
            takeNames(used);
            asked = row[begin + Plan.ASKED];
            divisor = row[begin + Plan.DIVISOR];
            c = row[begin + Plan.C];
            int letters = 1 << Integer.bitCount(used);
            for (int letter = 0; letter < letters; letter++) {
                gain[letter] = gainOf(letter, row, begin);
            }
        }

        private int gainOf(int letter, int[] row, int begin) {
            int sum = 0;
            int rest = letter;
            for (int v = 0; v < NAMES; v++) {
                if ((names >> v & 1) != 0) {
                    sum += (rest & 1) * row[begin + v];
                    rest >>= 1;
                }
            }
            return asked == Plan.DIVIDED && divisor > 0 ? Math.floorMod(sum, divisor) : sum;
        }

        void begin(Rough rough) {
            if (asked != Plan.DIVIDED) {
                rough.come(-c, 0, false);
            } else if (divisor > 0) {
                rough.come(Math.floorMod(c, divisor) * RESTS + 1 % divisor, 0, false);
            }
        }

        int go(Rough rough, int state, int letter) {
            long s = rough.one[state];
            int g = gain[letter];
            if (asked == Plan.DIVIDED) {
                return goDivided(rough, (int) s, g);
            }
            if (asked == Plan.EQUAL && (rough.two[state] == LOST || (s - g & 1) != 0)) {
                return rough.come(0, LOST, false);
            }
            boolean mark = asked == Plan.EQUAL ? s + g == 0 : s + g >= 0;
            return rough.come(s - g >> 1, mark ? MARK : 0, mark);
        }

        private int goDivided(Rough rough, int rests, int g) {
            if (divisor <= 0) {
                return 0;
            }
            int r = rests / RESTS;
            int w = rests % RESTS;
            int to = (r + w * g) % divisor * RESTS + 2 * w % divisor;
            boolean mark = (r - w * g) % divisor == 0;
            return rough.come(to, mark ? MARK : 0, mark);
        }
    }

    /** Rough states of F & G, F | G, F => G: pairs of states of both machines. */
    private static final class Pair extends Maker {
        private Machine left;
        private Machine right;
        private int how;
        private final int[] leftLetter = new int[LETTERS_MOST];
        private final int[] rightLetter = new int[LETTERS_MOST];

        void take(Machine newLeft, Machine newRight, int newHow) {
            takeNames(newLeft.names | newRight.names);
            left = newLeft;
            right = newRight;
            how = newHow;
            int letters = 1 << Integer.bitCount(names);
            for (int letter = 0; letter < letters; letter++) {
                leftLetter[letter] = narrow(letter, names, left.names);
                rightLetter[letter] = narrow(letter, names, right.names);
            }
        }

        void begin(Rough rough) {
            rough.come(0, 0, false);
        }

        int go(Rough rough, int state, int letter) {
            int from = (int) rough.one[state];
            int l = left.step[from / STATES_MOST * LETTERS_MOST + leftLetter[letter]];
            int r = right.step[from % STATES_MOST * LETTERS_MOST + rightLetter[letter]];
            boolean both = joined(left.good[l], right.good[r]);
            // That it accepts is told too, as the first pair accepts only when come to again.
            return rough.come(l * STATES_MOST + r, both ? 1 : 0, both);
        }

        private boolean joined(boolean first, boolean second) {
            if (how == BOTH) {
                return first && second;
            }
            return how == EITHER ? first || second : !first || second;
        }
    }

    /** Rough states of ! F: the states of F, and one more, the first. */
    private static final class Denial extends Maker {
        private static final int FIRST = 1;
        private Machine of;

        void take(Machine newOf) {
            takeNames(newOf.names);
            of = newOf;
        }

        void begin(Rough rough) {
            rough.come(0, FIRST, false);
        }

        int go(Rough rough, int state, int letter) {
            int to = of.step[(int) rough.one[state] * LETTERS_MOST + letter];
            return rough.come(to, 0, !of.good[to]);
        }
    }

    /** Rough states of E v F: sets of states of F (two words of bits) and a mark. */
    private static final class Shadow extends Maker {
        private static final int WORD = 64;
        // A bit of the second word that no state has.
        private static final long MARK = 1L << 62;

        private Machine of;
        private int vBit;
        // For each letter the set of the states that come to accept by it, again and again.
        private final long[] endsOne = new long[LETTERS_MOST];
        private final long[] endsTwo = new long[LETTERS_MOST];
        private long setOne;
        private long setTwo;

        void take(Machine newOf, int v) {
            takeNames(newOf.names & ~(1 << v));
            of = newOf;
            vBit = 1 << Integer.bitCount(names & (1 << v) - 1);
            int letters = 1 << Integer.bitCount(names);
            for (int letter = 0; letter < letters; letter++) {
                findEnds(letter);
            }
        }

        private void findEnds(int letter) {
            setOne = 0;
            setTwo = 0;
            for (int s = 0; s < of.states; s++) {
                if (of.good[s]) {
                    put(s);
                }
            }
            int with0 = widened(letter);
            boolean more = true;
            for (int i = 0; i < STATES_MOST && more; i++) {
                more = false;
                for (int s = 0; s < of.states; s++) {
                    if (!has(s) && (has(to(s, with0)) || has(to(s, with0 | vBit)))) {
                        put(s);
                        more = true;
                    }
                }
            }
            endsOne[letter] = setOne;
            endsTwo[letter] = setTwo;
        }

        /** The letter with a bit 0 for v. */
        private int widened(int letter) {
            int low = letter & vBit - 1;
            return (letter - low) * 2 + low;
        }

        private int to(int state, int letter) {
            return of.step[state * LETTERS_MOST + letter];
        }

        private boolean has(int s) {
            return ((s < WORD ? setOne >>> s : setTwo >>> s - WORD) & 1) != 0;
        }

        private void put(int s) {
            if (s < WORD) {
                setOne |= 1L << s;
            } else {
                setTwo |= 1L << s - WORD;
            }
        }

        void begin(Rough rough) {
            rough.come(1, 0, false);
        }

        int go(Rough rough, int state, int letter) {
            setOne = 0;
            setTwo = 0;
            int with0 = widened(letter);
            putNext(rough.one[state], 0, with0);
            putNext(rough.two[state] & ~MARK, WORD, with0);
            boolean mark = (setOne & endsOne[letter] | setTwo & endsTwo[letter]) != 0;
            return rough.come(setOne, mark ? setTwo | MARK : setTwo, mark);
        }

        private void putNext(long word, int lowest, int with0) {
            long rest = word;
            for (int i = 0; i < WORD && rest != 0; i++) {
                int s = lowest + Long.numberOfTrailingZeros(rest);
                put(to(s, with0));
                put(to(s, with0 | vBit));
                rest &= rest - 1;
            }
        }
    }
}
