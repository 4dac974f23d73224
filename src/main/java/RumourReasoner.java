/**
 * A reasoner for reports that may contradict each other.
 *
 * <p>A value is two bits, told true (1) and told false (2), so that a MERGE is an "or" of bits. A state gives a value
 * to each atom and is held as the number that the document calls a valuation, two bits an atom; so what several
 * sources say together is an "or" too.
 *
 * <p>A formula is held as two sets of valuations: those for which it is told true, and those for which it is told
 * false. They are made with the formula, once; its parts are not needed afterwards. A set of the 4096 valuations is 64
 * words: the valuation n is the bit n % 64 of the word n / 64.
 */
public final class RumourReasoner {
    private static final int ATOM = 0;
    private static final int VALUE = 1;
    private static final int NOT = 2;
    private static final int AND = 3;
    private static final int OR = 4;
    private static final int AGREE = 5;
    private static final int MERGE = 6;
    private static final int IF = 7;
    private static final int OPEN = 8;

    private static final int NONE = 0;
    private static final int TOLD_TRUE = 1;
    private static final int TOLD_FALSE = 2;
    private static final int BOTH = 3;

    private static final int ATOMS = 6;
    private static final int SOURCES = 6;
    private static final int MOST_FORMULAS = 40;
    private static final int NO_RULE = -1;
    private static final int LEAST_TRUST = 1;
    private static final int MOST_TRUST = 100;
    private static final int FIRST_TRUST = 50;
    private static final int ALL_VALUES = 15;
    private static final int VALUATIONS = 4096;
    private static final int WORDS = 64;
    private static final long FIRST_DIGEST = 131L;

    // Steady formulas never take back what they told, so a round that changes something sets one of 12 bits for good.
    private static final int MOST_ROUNDS = 2 * ATOMS;

    // The k-th word has those of its bits set whose number has the bit k set.
    private static final long[] NUMBERS_WITH_BIT = {
        0xAAAAAAAAAAAAAAAAL, 0xCCCCCCCCCCCCCCCCL, 0xF0F0F0F0F0F0F0F0L,
        0xFF00FF00FF00FF00L, 0xFFFF0000FFFF0000L, 0xFFFFFFFF00000000L
    };

    private int count;
    private final int[] kinds;
    private final boolean[] steady;
    private final long[] trueSets;
    private final long[] falseSets;

    private final int[] trusts;
    private final boolean[] on;
    private final int[] reports;
    private int leastTrust;
    private final int[] rules;

    private int logic;
    // A valuation is of the logic if the three atoms of its word's number and the three of its bit's number are; one
    // word therefore tells both.
    private long logicTriples;

    public RumourReasoner() {
        count = 0;
        kinds = new int[MOST_FORMULAS];
        steady = new boolean[MOST_FORMULAS];
        trueSets = new long[MOST_FORMULAS * WORDS];
        falseSets = new long[MOST_FORMULAS * WORDS];
        trusts = new int[SOURCES];
        on = new boolean[SOURCES];
        reports = new int[SOURCES];
        for (int source = 0; source < SOURCES; source++) {
            trusts[source] = FIRST_TRUST;
            on[source] = true;
        }
        leastTrust = LEAST_TRUST;
        rules = new int[ATOMS];
        for (int atom = 0; atom < ATOMS; atom++) {
            rules[atom] = NO_RULE;
        }
        logic = ALL_VALUES;
        logicTriples = -1L;
    }

    // ---- formulas

    public int atom(int p) throws IndexOutOfBoundsException, IllegalStateException {
        requireAtom(p);
        requireRoom();
        int place = placeOf(p);
        int row = rowOf(count);
        for (int word = 0; word < WORDS; word++) {
            trueSets[row + word] = valuationsWithBit(place, word);
            falseSets[row + word] = valuationsWithBit(place + 1, word);
        }
        return addFormula(ATOM, true);
    }

    public int constant(int v) throws IllegalArgumentException, IllegalStateException {
        requireValue(v);
        requireRoom();
        int row = rowOf(count);
        for (int word = 0; word < WORDS; word++) {
            trueSets[row + word] = (v & TOLD_TRUE) != 0 ? -1L : 0L;
            falseSets[row + word] = (v & TOLD_FALSE) != 0 ? -1L : 0L;
        }
        return addFormula(VALUE, true);
    }

    public int turn(int kind, int a)
            throws IndexOutOfBoundsException, IllegalArgumentException, IllegalStateException {
        requireFormula(a);
        if (kind != NOT && kind != OPEN) {
            throw new IllegalArgumentException("kind is not 2 or 8");
        }
        requireRoom();
        int row = rowOf(count);
        int part = rowOf(a);
        for (int word = 0; word < WORDS; word++) {
            long isTrue = trueSets[part + word];
            long isFalse = falseSets[part + word];
            trueSets[row + word] = kind == NOT ? isFalse : ~isFalse;
            falseSets[row + word] = kind == NOT ? isTrue : ~isTrue;
        }
        return addFormula(kind, kind == NOT && steady[a]);
    }

    public int join(int kind, int a, int b)
            throws IndexOutOfBoundsException, IllegalArgumentException, IllegalStateException {
        requireFormula(a);
        requireFormula(b);
        if (kind < AND || kind > IF) {
            throw new IllegalArgumentException("kind is not 3 to 7");
        }
        requireRoom();
        int row = rowOf(count);
        int left = rowOf(a);
        int right = rowOf(b);
        for (int word = 0; word < WORDS; word++) {
            long leftTrue = trueSets[left + word];
            trueSets[row + word] = joinTrue(kind, leftTrue, trueSets[right + word]);
            falseSets[row + word] = joinFalse(kind, leftTrue, falseSets[left + word], falseSets[right + word]);
        }
        return addFormula(kind, kind != IF && steady[a] && steady[b]);
    }

    public int formulaCount() {
        return count;
    }

    public boolean isSteady(int formula) throws IndexOutOfBoundsException {
        requireFormula(formula);
        return steady[formula];
    }

    // ---- reports and rules

    public int report(int source, int atom, int value) throws IndexOutOfBoundsException, IllegalArgumentException {
        requireSource(source);
        requireAtom(atom);
        requireValue(value);
        int before = valueIn(reports[source], atom);
        int others = reports[source] & ~(BOTH << placeOf(atom));
        reports[source] = others | (value << placeOf(atom));
        return before;
    }

    public int setTrust(int source, int trust) throws IndexOutOfBoundsException, IllegalArgumentException {
        requireSource(source);
        requireTrust(trust);
        int before = trusts[source];
        trusts[source] = trust;
        return before;
    }

    public int setLeastTrust(int trust) throws IllegalArgumentException {
        requireTrust(trust);
        int before = leastTrust;
        leastTrust = trust;
        return before;
    }

    public boolean let(int source, boolean isOn) throws IndexOutOfBoundsException {
        requireSource(source);
        on[source] = isOn;
        return isHeard(source);
    }

    public int setRule(int atom, int formula) throws IndexOutOfBoundsException, IllegalArgumentException {
        requireAtom(atom);
        if (formula != NO_RULE) {
            requireFormula(formula);
            requireSteady(formula);
        }
        int before = rules[atom];
        rules[atom] = formula;
        return before;
    }

    public int given(int atom) throws IndexOutOfBoundsException {
        requireAtom(atom);
        return valueIn(givenState(heard()), atom);
    }

    public int settled(int atom) throws IndexOutOfBoundsException {
        requireAtom(atom);
        return valueIn(settledNow(), atom);
    }

    public int rounds() {
        int first = givenState(heard());
        int state = first;
        for (int round = 0; round < MOST_ROUNDS; round++) {
            int next = nextState(first, state);
            if (next == state) {
                return round;
            }
            state = next;
        }
        return MOST_ROUNDS;
    }

    public int since(int atom, boolean isTrue) throws IndexOutOfBoundsException {
        requireAtom(atom);
        int first = givenState(heard());
        int state = first;
        for (int round = 0; round <= MOST_ROUNDS; round++) {
            if (isTold(valueIn(state, atom), isTrue)) {
                return round;
            }
            state = nextState(first, state);
        }
        return -1;
    }

    public int value(int formula) throws IndexOutOfBoundsException {
        requireFormula(formula);
        return lookUp(formula, settledNow());
    }

    public int conflicts() {
        return atomsWith(settledNow(), BOTH);
    }

    public int gaps() {
        return atomsWith(settledNow(), NONE);
    }

    public double discord() {
        int state = settledNow();
        int told = ATOMS - Integer.bitCount(atomsWith(state, NONE));
        if (told == 0) {
            return 0.0;
        }
        return (double) Integer.bitCount(atomsWith(state, BOTH)) / (double) told;
    }

    // ---- sources

    public int heard() {
        int set = 0;
        for (int source = 0; source < SOURCES; source++) {
            if (isHeard(source)) {
                set |= 1 << source;
            }
        }
        return set;
    }

    public int sayers(int atom, boolean isTrue) throws IndexOutOfBoundsException {
        requireAtom(atom);
        int set = 0;
        for (int source = 0; source < SOURCES; source++) {
            if (isHeard(source) && isTold(valueIn(reports[source], atom), isTrue)) {
                set |= 1 << source;
            }
        }
        return set;
    }

    public boolean matters(int source, int atom) throws IndexOutOfBoundsException {
        requireSource(source);
        requireAtom(atom);
        int all = heard();
        int without = all & ~(1 << source);
        // A source that is not heard leaves the set as it is, and so matters to nothing.
        return valueIn(settledState(all), atom) != valueIn(settledState(without), atom);
    }

    public int silence() {
        int all = heard();
        int best = -1;
        int bestSum = SOURCES * MOST_TRUST + 1;
        for (int set = 0; set < 1 << SOURCES; set++) {
            if ((set & ~all) == 0) {
                int sum = trustOf(set);
                if (sum < bestSum && atomsWith(settledState(all & ~set), BOTH) == 0) {
                    best = set;
                    bestSum = sum;
                }
            }
        }
        return best;
    }

    public int contradicted(int source) throws IndexOutOfBoundsException {
        requireSource(source);
        int state = settledNow();
        int number = 0;
        for (int atom = 0; atom < ATOMS; atom++) {
            if (isAgainst(valueIn(reports[source], atom), valueIn(state, atom))) {
                number++;
            }
        }
        return number;
    }

    // ---- logics

    public int setLogic(int values) throws IllegalArgumentException {
        if (values < 1 || values > ALL_VALUES) {
            throw new IllegalArgumentException("values is not 1 to 15");
        }
        int before = logic;
        logic = values;
        logicTriples = triplesOf(values);
        return before;
    }

    public int models(int formula) throws IndexOutOfBoundsException {
        requireFormula(formula);
        int row = rowOf(formula);
        int number = 0;
        for (int word = 0; word < WORDS; word++) {
            number += Long.bitCount(trueSets[row + word] & logicWord(word));
        }
        return number;
    }

    public int range(int formula) throws IndexOutOfBoundsException {
        requireFormula(formula);
        int row = rowOf(formula);
        int values = 0;
        for (int word = 0; word < WORDS; word++) {
            for (int v = NONE; v <= BOTH; v++) {
                long having = pick(trueSets[row + word], falseSets[row + word], v);
                if ((having & logicWord(word)) != 0L) {
                    values |= 1 << v;
                }
            }
        }
        return values;
    }

    public boolean entails(int a, int b) throws IndexOutOfBoundsException {
        return against(a, b) == -1;
    }

    public int against(int a, int b) throws IndexOutOfBoundsException {
        requireFormula(a);
        requireFormula(b);
        int left = rowOf(a);
        int right = rowOf(b);
        for (int word = 0; word < WORDS; word++) {
            long found = trueSets[left + word] & ~trueSets[right + word] & logicWord(word);
            if (found != 0L) {
                return word * WORDS + lowestBit(found);
            }
        }
        return -1;
    }

    public boolean areEqual(int a, int b) throws IndexOutOfBoundsException {
        requireFormula(a);
        requireFormula(b);
        int left = rowOf(a);
        int right = rowOf(b);
        for (int word = 0; word < WORDS; word++) {
            if ((differing(left + word, right + word, 0) & logicWord(word)) != 0L) {
                return false;
            }
        }
        return true;
    }

    public boolean depends(int formula, int atom) throws IndexOutOfBoundsException {
        requireFormula(formula);
        requireAtom(atom);
        // If the formula differs between two values of the atom, it differs between the least value and one of them.
        int least = lowestBit(logic);
        for (int v = least + 1; v <= BOTH; v++) {
            if (((logic >>> v) & 1) != 0 && isChanged(formula, atom, least, v)) {
                return true;
            }
        }
        return false;
    }

    public int valueAt(int formula, int valuation) throws IndexOutOfBoundsException, IllegalArgumentException {
        requireFormula(formula);
        if (valuation < 0 || valuation >= VALUATIONS) {
            throw new IllegalArgumentException("valuation is not 0 to 4095");
        }
        return lookUp(formula, valuation);
    }

    public long digest() {
        int first = givenState(heard());
        int last = settledNow();
        long d = mix(FIRST_DIGEST, count);
        for (int formula = 0; formula < count; formula++) {
            d = mix(d, kinds[formula]);
        }
        d = mix(d, leastTrust);
        for (int source = 0; source < SOURCES; source++) {
            d = mix(d, trusts[source]);
            d = mix(d, on[source] ? 1 : 0);
            for (int atom = 0; atom < ATOMS; atom++) {
                d = mix(d, valueIn(reports[source], atom));
            }
        }
        for (int atom = 0; atom < ATOMS; atom++) {
            d = mix(d, rules[atom]);
            d = mix(d, valueIn(first, atom));
            d = mix(d, valueIn(last, atom));
        }
        d = mix(d, rounds());
        return mix(d, logic);
    }

    private static long mix(long d, int x) {
        return d * 31L + x;
    }

    // ---- what calls must bring

    private static void requireAtom(int atom) {
        if (atom < 0 || atom >= ATOMS) {
            throw new IndexOutOfBoundsException("no such atom");
        }
    }

    private static void requireSource(int source) {
        if (source < 0 || source >= SOURCES) {
            throw new IndexOutOfBoundsException("no such source");
        }
    }

    private static void requireValue(int v) {
        if (v < NONE || v > BOTH) {
            throw new IllegalArgumentException("value is not 0 to 3");
        }
    }

    private static void requireTrust(int trust) {
        if (trust < LEAST_TRUST || trust > MOST_TRUST) {
            throw new IllegalArgumentException("trust is not 1 to 100");
        }
    }

    private void requireFormula(int formula) {
        if (formula < 0 || formula >= count) {
            throw new IndexOutOfBoundsException("no such formula");
        }
    }

    private void requireSteady(int formula) {
        if (!steady[formula]) {
            throw new IllegalArgumentException("the formula is not steady");
        }
    }

    private void requireRoom() {
        if (count >= MOST_FORMULAS) {
            throw new IllegalStateException("there are 40 formulas");
        }
    }

    // ---- values and states

    private static int placeOf(int atom) {
        return 2 * (ATOMS - 1 - atom);
    }

    private static int valueIn(int state, int atom) {
        return (state >>> placeOf(atom)) & BOTH;
    }

    private static boolean isTold(int v, boolean isTrue) {
        return (v & (isTrue ? TOLD_TRUE : TOLD_FALSE)) != 0;
    }

    private static boolean isAgainst(int said, int held) {
        return (isTold(said, true) && isTold(held, false)) || (isTold(said, false) && isTold(held, true));
    }

    private static int atomsWith(int state, int v) {
        int set = 0;
        for (int atom = 0; atom < ATOMS; atom++) {
            if (valueIn(state, atom) == v) {
                set |= 1 << atom;
            }
        }
        return set;
    }

    // ---- formulas and their sets of valuations

    private static int rowOf(int formula) {
        return formula * WORDS;
    }

    private int addFormula(int kind, boolean isSteady) {
        int formula = count;
        kinds[formula] = kind;
        steady[formula] = isSteady;
        count++;
        return formula;
    }

    private static long valuationsWithBit(int bit, int word) {
        // The lower six bits of a valuation's number are told by its place in the word, the others by the word.
        if (bit < NUMBERS_WITH_BIT.length) {
            return NUMBERS_WITH_BIT[bit];
        }
        return ((word >>> (bit - NUMBERS_WITH_BIT.length)) & 1) != 0 ? -1L : 0L;
    }

    private static long joinTrue(int kind, long leftTrue, long rightTrue) {
        switch (kind) {
            case AND:
            case AGREE:
                return leftTrue & rightTrue;
            case OR:
            case MERGE:
                return leftTrue | rightTrue;
            default:
                return ~leftTrue | rightTrue;
        }
    }

    private static long joinFalse(int kind, long leftTrue, long leftFalse, long rightFalse) {
        switch (kind) {
            case OR:
            case AGREE:
                return leftFalse & rightFalse;
            case AND:
            case MERGE:
                return leftFalse | rightFalse;
            default:
                return leftTrue & rightFalse;
        }
    }

    private int lookUp(int formula, int valuation) {
        int index = rowOf(formula) + valuation / WORDS;
        int bit = valuation % WORDS;
        int isTrue = (int) ((trueSets[index] >>> bit) & 1L);
        int isFalse = (int) ((falseSets[index] >>> bit) & 1L);
        return isTrue * TOLD_TRUE + isFalse * TOLD_FALSE;
    }

    private static long pick(long isTrue, long isFalse, int v) {
        return (isTold(v, true) ? isTrue : ~isTrue) & (isTold(v, false) ? isFalse : ~isFalse);
    }

    // ---- sources and settling

    private boolean isHeard(int source) {
        return on[source] && trusts[source] >= leastTrust;
    }

    private int trustOf(int sources) {
        int sum = 0;
        for (int source = 0; source < SOURCES; source++) {
            if (((sources >>> source) & 1) != 0) {
                sum += trusts[source];
            }
        }
        return sum;
    }

    private int givenState(int sources) {
        int state = 0;
        for (int source = 0; source < SOURCES; source++) {
            if (((sources >>> source) & 1) != 0) {
                state |= reports[source];
            }
        }
        return state;
    }

    private int nextState(int first, int state) {
        int next = first;
        for (int atom = 0; atom < ATOMS; atom++) {
            if (rules[atom] != NO_RULE) {
                next |= lookUp(rules[atom], state) << placeOf(atom);
            }
        }
        return next;
    }

    private int settledNow() {
        return settledState(heard());
    }

    private int settledState(int sources) {
        int first = givenState(sources);
        int state = first;
        for (int round = 0; round < MOST_ROUNDS; round++) {
            int next = nextState(first, state);
            if (next == state) {
                return state;
            }
            state = next;
        }
        return state;
    }

    // ---- valuations of the logic

    private static long triplesOf(int values) {
        long set = 0L;
        for (int triple = 0; triple < WORDS; triple++) {
            int high = values >>> (triple >>> 4);
            int middle = values >>> ((triple >>> 2) & BOTH);
            int low = values >>> (triple & BOTH);
            if ((high & middle & low & 1) != 0) {
                set |= 1L << triple;
            }
        }
        return set;
    }

    private long logicWord(int word) {
        return ((logicTriples >>> word) & 1L) != 0L ? logicTriples : 0L;
    }

    private static int lowestBit(long bits) {
        return Long.bitCount((bits & -bits) - 1L);
    }

    private long differing(int index, int other, int shift) {
        long inTrue = trueSets[index] ^ (trueSets[other] >>> shift);
        long inFalse = falseSets[index] ^ (falseSets[other] >>> shift);
        return inTrue | inFalse;
    }

    private boolean isChanged(int formula, int atom, int from, int to) {
        int row = rowOf(formula);
        int place = placeOf(atom);
        int step = (to - from) << place;
        for (int word = 0; word < WORDS; word++) {
            long starts = logicWord(word)
                    & pick(valuationsWithBit(place, word), valuationsWithBit(place + 1, word), from);
            // An atom has its two bits either both in the word's number or both in the bit's, so one of these is 0.
            int other = word + step / WORDS;
            int shift = step % WORDS;
            if (starts != 0L && other < WORDS && (differing(row + word, row + other, shift) & starts) != 0L) {
                return true;
            }
        }
        return false;
    }
}
