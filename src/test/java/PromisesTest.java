/** At least one test for each promise of the document: ordinary inputs, the named edges, and wrong inputs. */
public final class PromisesTest {
    private static final Class<? extends RuntimeException> INDEX = IndexOutOfBoundsException.class;
    private static final Class<? extends RuntimeException> ARGUMENT = IllegalArgumentException.class;
    private static final Class<? extends RuntimeException> STATE = IllegalStateException.class;
    private static final int[] NOT_SIX = {-1, 6, Integer.MIN_VALUE, Integer.MAX_VALUE};
    private static final int[] NOT_VALUES = {-1, 4, Integer.MIN_VALUE, Integer.MAX_VALUE};
    private static final int[] NOT_TRUSTS = {0, -1, 101, Integer.MIN_VALUE, Integer.MAX_VALUE};
    private static final int NONE = 0;
    private static final int TRUE = 1;
    private static final int FALSE = 2;
    private static final int BOTH = 3;
    private static String promise = "";
    private static int wrong = 0;

    public static void main(String[] args) {
        newObject();
        atom();
        constant();
        turn();
        join();
        valuesOfJoins();
        formulaCount();
        isSteady();
        report();
        setTrust();
        setLeastTrust();
        let();
        setRule();
        given();
        settled();
        rounds();
        since();
        value();
        conflictsAndGaps();
        discord();
        heard();
        sayers();
        matters();
        silence();
        contradicted();
        setLogic();
        models();
        range();
        entailsAndAgainst();
        areEqual();
        depends();
        valueAt();
        digest();
        System.out.println(wrong == 0 ? "PromisesTest: all answers are as due" : "PromisesTest: " + wrong + " wrong");
        if (wrong != 0) {
            System.exit(1);
        }
    }

    // ---- helpers

    private static void due(String call, Object got, Object want) {
        if (!got.equals(want)) {
            wrong++;
            System.out.println(promise + ": " + call + " answered " + got + ", due is " + want);
        }
    }

    /** The call throws just this exception, and nothing that can be seen has changed. */
    private static void refused(Class<? extends RuntimeException> due, RumourReasoner x, String call, Runnable action) {
        String before = everything(x);
        String got = "nothing";
        try {
            action.run();
        } catch (RuntimeException e) {
            got = e.getClass().getSimpleName();
        }
        due(call + " throws", got, due.getSimpleName());
        due("what is seen after " + call, everything(x), before);
    }

    /** Few calls, since an object is used for 512 at most; PromiseEdgesTest looks at the formulas too. */
    private static String everything(RumourReasoner x) {
        return x.digest() + " " + x.heard() + " " + x.formulaCount();
    }

    private static RumourReasoner withAtoms() {
        RumourReasoner x = new RumourReasoner();
        for (int p = 0; p < 6; p++) {
            x.atom(p);
        }
        return x;
    }

    private static RumourReasoner full() {
        RumourReasoner x = withAtoms();
        while (x.formulaCount() < 40) {
            x.constant(1);
        }
        return x;
    }

    /** The valuation in which the atom 0 has the value a, the atom 1 the value b, and the others have NONE. */
    private static int first(int a, int b) {
        return a * 1024 + b * 256;
    }

    /** A formula that is told true just if the atoms 0, 1 and 2 are all BOTH, or just if they are all NONE. */
    private static int corner(RumourReasoner x, boolean isBoth) {
        int all = x.constant(TRUE);
        for (int p = 0; p < 3; p++) {
            int part = isBoth ? p : x.turn(8, p);
            all = x.join(3, all, x.join(3, part, x.turn(2, part)));
        }
        return all;
    }

    private static long mixed(int... numbers) {
        long d = 131;
        for (int x : numbers) {
            d = d * 31 + x;
        }
        return d;
    }

    /** A ring of rules in which a TRUE goes round once, and comes back as a FALSE: the longest way to settle. */
    private static RumourReasoner ring() {
        RumourReasoner x = withAtoms();
        for (int p = 1; p < 6; p++) {
            x.setRule(p, p - 1);
        }
        int isTrue = x.constant(TRUE);
        int turned = x.turn(2, 5);
        x.setRule(0, x.join(6, isTrue, turned));
        return x;
    }

    // ---- the promises

    private static void newObject() {
        promise = "promise 1";
        RumourReasoner x = new RumourReasoner();
        due("formulaCount()", x.formulaCount(), 0);
        due("heard()", x.heard(), 63);
        due("gaps()", x.gaps(), 63);
        due("rounds()", x.rounds(), 0);
        due("silence()", x.silence(), 0);
        due("setLogic(15)", x.setLogic(15), 15);
        due("setLeastTrust(1)", x.setLeastTrust(1), 1);
        for (int k = 0; k < 6; k++) {
            due("setTrust(.., 50)", x.setTrust(k, 50), 50);
            due("setRule(.., -1)", x.setRule(k, -1), -1);
            for (int p = 0; p < 6; p++) {
                due("report(.., .., 0)", x.report(k, p, 0), 0);
            }
        }
        due("another object's digest()", new RumourReasoner().digest(), x.digest());
        x.report(0, 0, 3);
        due("another object's given(0)", new RumourReasoner().given(0), 0);
    }

    private static void atom() {
        promise = "promise 2";
        RumourReasoner x = new RumourReasoner();
        for (int p = 0; p < 6; p++) {
            due("atom(" + p + ")", x.atom(p), p);
            due("isSteady(" + p + ")", x.isSteady(p), true);
        }
        due("atom(3) again", x.atom(3), 6);
        for (int p = 0; p < 6; p++) {
            for (int v = 0; v < 4; v++) {
                int place = 1;
                for (int k = p; k < 5; k++) {
                    place *= 4;
                }
                due("atom " + p + " of value " + v, x.valueAt(p, v * place), v);
                due("atom " + p + " of value " + v + " beside others", x.valueAt(p, 4095 - 3 * place + v * place), v);
            }
        }
        for (int p : NOT_SIX) {
            refused(INDEX, x, "atom(" + p + ")", () -> x.atom(p));
        }
        RumourReasoner full = full();
        refused(STATE, full, "atom(0) as the 41st", () -> full.atom(0));
        refused(INDEX, full, "atom(6) as the 41st", () -> full.atom(6));
        RumourReasoner last = new RumourReasoner();
        for (int f = 0; f < 40; f++) {
            due("atom(5) as formula " + f, last.atom(5), f);
        }
        due("the last one's value", last.valueAt(39, 2), 2);
    }

    private static void constant() {
        promise = "promise 3";
        RumourReasoner x = new RumourReasoner();
        for (int v = 0; v < 4; v++) {
            due("constant(" + v + ")", x.constant(v), v);
            due("isSteady", x.isSteady(v), true);
            due("its value at 0", x.valueAt(v, 0), v);
            due("its value at 2730", x.valueAt(v, 2730), v);
            due("its value at 4095", x.valueAt(v, 4095), v);
            due("its range", x.range(v), 1 << v);
        }
        for (int v : NOT_VALUES) {
            refused(ARGUMENT, x, "constant(" + v + ")", () -> x.constant(v));
        }
        RumourReasoner full = full();
        refused(STATE, full, "constant(0) as the 41st", () -> full.constant(0));
        refused(ARGUMENT, full, "constant(4) as the 41st", () -> full.constant(4));
    }

    private static void turn() {
        promise = "promise 4";
        RumourReasoner x = new RumourReasoner();
        refused(INDEX, x, "turn(2, 0) without formulas", () -> x.turn(2, 0));
        x.atom(0);
        due("turn(2, 0)", x.turn(2, 0), 1);
        due("turn(8, 0)", x.turn(8, 0), 2);
        int[] not = {NONE, FALSE, TRUE, BOTH};
        int[] open = {BOTH, TRUE, FALSE, NONE};
        for (int v = 0; v < 4; v++) {
            due("NOT " + v, x.valueAt(1, first(v, 0)), not[v]);
            due("OPEN " + v, x.valueAt(2, first(v, 0)), open[v]);
        }
        for (int kind : new int[] {-1, 0, 1, 3, 4, 5, 6, 7, 9, Integer.MIN_VALUE, Integer.MAX_VALUE}) {
            refused(ARGUMENT, x, "turn(" + kind + ", 0)", () -> x.turn(kind, 0));
        }
        for (int a : new int[] {-1, 3, 40, Integer.MIN_VALUE, Integer.MAX_VALUE}) {
            refused(INDEX, x, "turn(2, " + a + ")", () -> x.turn(2, a));
            refused(INDEX, x, "turn(3, " + a + ")", () -> x.turn(3, a));
        }
        RumourReasoner full = full();
        refused(STATE, full, "turn(2, 0) as the 41st", () -> full.turn(2, 0));
        refused(STATE, full, "turn(8, 39) as the 41st", () -> full.turn(8, 39));
        refused(ARGUMENT, full, "turn(3, 0) as the 41st", () -> full.turn(3, 0));
        refused(INDEX, full, "turn(3, 40) as the 41st", () -> full.turn(3, 40));
        RumourReasoner last = new RumourReasoner();
        last.atom(0);
        for (int f = 1; f < 40; f++) {
            due("turn as formula " + f, last.turn(2, f - 1), f);
        }
        due("the last one's value", last.valueAt(39, 1024 * TRUE + 1023), FALSE);
    }

    private static void join() {
        promise = "promise 5";
        RumourReasoner x = new RumourReasoner();
        refused(INDEX, x, "join(3, 0, 0) without formulas", () -> x.join(3, 0, 0));
        x.atom(0);
        x.atom(1);
        for (int kind = 3; kind <= 7; kind++) {
            due("join(" + kind + ", 0, 1)", x.join(kind, 0, 1), kind - 1);
        }
        for (int kind : new int[] {-1, 0, 1, 2, 8, 9, Integer.MIN_VALUE, Integer.MAX_VALUE}) {
            refused(ARGUMENT, x, "join(" + kind + ", 0, 1)", () -> x.join(kind, 0, 1));
        }
        for (int f : new int[] {-1, 7, 40, Integer.MIN_VALUE, Integer.MAX_VALUE}) {
            refused(INDEX, x, "join(3, " + f + ", 0)", () -> x.join(3, f, 0));
            refused(INDEX, x, "join(3, 0, " + f + ")", () -> x.join(3, 0, f));
            refused(INDEX, x, "join(9, 0, " + f + ")", () -> x.join(9, 0, f));
        }
        RumourReasoner full = full();
        refused(STATE, full, "join(3, 0, 39) as the 41st", () -> full.join(3, 0, 39));
        refused(ARGUMENT, full, "join(8, 0, 39) as the 41st", () -> full.join(8, 0, 39));
        refused(INDEX, full, "join(8, 40, 0) as the 41st", () -> full.join(8, 40, 0));
        refused(INDEX, full, "join(3, 0, 40) as the 41st", () -> full.join(3, 0, 40));
        RumourReasoner last = new RumourReasoner();
        last.atom(0);
        for (int f = 1; f < 40; f++) {
            due("join as formula " + f, last.join(6, f - 1, 0), f);
        }
        due("the last one's value", last.valueAt(39, 1024 * FALSE + 1023), FALSE);
    }

    private static void valuesOfJoins() {
        promise = "promise 5, values";
        // The rows are a = NONE, TRUE, FALSE, BOTH; in a row, b = NONE, TRUE, FALSE, BOTH.
        String[] tables = {
            "0022" + "0123" + "2222" + "2323",
            "0101" + "1111" + "0123" + "1133",
            "0000" + "0101" + "0022" + "0123",
            "0123" + "1133" + "2323" + "3333",
            "1111" + "0123" + "1111" + "0123",
        };
        RumourReasoner x = withAtoms();
        for (int kind = 3; kind <= 7; kind++) {
            int formula = x.join(kind, 0, 1);
            int deep = x.join(kind, 4, 5);
            for (int a = 0; a < 4; a++) {
                for (int b = 0; b < 4; b++) {
                    int want = tables[kind - 3].charAt(4 * a + b) - '0';
                    due("kind " + kind + " of " + a + " and " + b, x.valueAt(formula, first(a, b)), want);
                    due("kind " + kind + " of " + a + " and " + b, x.valueAt(deep, 4 * a + b), want);
                }
            }
        }
        due("a formula with itself", x.areEqual(x.join(3, 2, 2), 2), true);
    }

    private static void formulaCount() {
        promise = "promise 6";
        RumourReasoner x = new RumourReasoner();
        due("formulaCount()", x.formulaCount(), 0);
        for (int f = 0; f < 40; f++) {
            x.constant(f % 4);
            due("formulaCount()", x.formulaCount(), f + 1);
        }
        refused(STATE, x, "the 41st", () -> x.atom(1));
        due("formulaCount()", x.formulaCount(), 40);
    }

    private static void isSteady() {
        promise = "promise 7";
        RumourReasoner x = withAtoms();
        int open = x.turn(8, 0);
        int cond = x.join(7, 0, 1);
        due("of an OPEN", x.isSteady(open), false);
        due("of an IF", x.isSteady(cond), false);
        due("of a NOT", x.isSteady(x.turn(2, 0)), true);
        due("of the NOT of an OPEN", x.isSteady(x.turn(2, open)), false);
        due("of the OPEN of an OPEN", x.isSteady(x.turn(8, open)), false);
        for (int kind = 3; kind <= 6; kind++) {
            due("of kind " + kind, x.isSteady(x.join(kind, 0, 1)), true);
            due("of kind " + kind + " with an IF first", x.isSteady(x.join(kind, cond, 1)), false);
            due("of kind " + kind + " with an OPEN last", x.isSteady(x.join(kind, 1, open)), false);
        }
        int deep = x.turn(2, x.turn(2, x.join(3, 0, x.join(4, cond, 2))));
        due("of one with an IF deep inside", x.isSteady(deep), false);
        due("of the last atom", x.isSteady(5), true);
        int count = x.formulaCount();
        for (int f : new int[] {-1, count, 40, Integer.MIN_VALUE, Integer.MAX_VALUE}) {
            refused(INDEX, x, "isSteady(" + f + ")", () -> x.isSteady(f));
        }
    }

    private static void report() {
        promise = "promise 8";
        RumourReasoner x = new RumourReasoner();
        for (int source = 0; source < 6; source++) {
            for (int p = 0; p < 6; p++) {
                due("report", x.report(source, p, (source + p) % 4), 0);
            }
        }
        for (int source = 0; source < 6; source++) {
            for (int p = 0; p < 6; p++) {
                due("report(" + source + ", " + p + ", ..)", x.report(source, p, 3), (source + p) % 4);
                due("report(" + source + ", " + p + ", ..) again", x.report(source, p, 0), 3);
            }
        }
        due("gaps()", x.gaps(), 63);
        for (int k : NOT_SIX) {
            refused(INDEX, x, "report(" + k + ", 0, 1)", () -> x.report(k, 0, 1));
            refused(INDEX, x, "report(0, " + k + ", 1)", () -> x.report(0, k, 1));
            refused(INDEX, x, "report(" + k + ", 0, 4)", () -> x.report(k, 0, 4));
            refused(INDEX, x, "report(0, " + k + ", 4)", () -> x.report(0, k, 4));
        }
        for (int v : NOT_VALUES) {
            refused(ARGUMENT, x, "report(0, 0, " + v + ")", () -> x.report(0, 0, v));
        }
        x.let(2, false);
        due("report of one that is off", x.report(2, 2, 1), 0);
        due("given(2)", x.given(2), 0);
        x.let(2, true);
        due("given(2)", x.given(2), 1);
    }

    private static void setTrust() {
        promise = "promise 9";
        RumourReasoner x = new RumourReasoner();
        for (int source = 0; source < 6; source++) {
            due("setTrust", x.setTrust(source, 1), 50);
            due("setTrust", x.setTrust(source, 100), 1);
            due("setTrust", x.setTrust(source, 10 + source), 100);
        }
        for (int source = 0; source < 6; source++) {
            due("setTrust", x.setTrust(source, 7), 10 + source);
        }
        for (int k : NOT_SIX) {
            refused(INDEX, x, "setTrust(" + k + ", 5)", () -> x.setTrust(k, 5));
            refused(INDEX, x, "setTrust(" + k + ", 0)", () -> x.setTrust(k, 0));
        }
        for (int trust : NOT_TRUSTS) {
            refused(ARGUMENT, x, "setTrust(5, " + trust + ")", () -> x.setTrust(5, trust));
        }
        x.setLeastTrust(8);
        due("heard()", x.heard(), 0);
        x.setTrust(4, 8);
        due("heard()", x.heard(), 16);
    }

    private static void setLeastTrust() {
        promise = "promise 10";
        RumourReasoner x = new RumourReasoner();
        due("setLeastTrust(50)", x.setLeastTrust(50), 1);
        due("heard()", x.heard(), 63);
        due("setLeastTrust(51)", x.setLeastTrust(51), 50);
        due("heard()", x.heard(), 0);
        due("setLeastTrust(100)", x.setLeastTrust(100), 51);
        due("setLeastTrust(1)", x.setLeastTrust(1), 100);
        for (int trust : NOT_TRUSTS) {
            refused(ARGUMENT, x, "setLeastTrust(" + trust + ")", () -> x.setLeastTrust(trust));
        }
    }

    private static void let() {
        promise = "promise 11";
        RumourReasoner x = new RumourReasoner();
        due("let(3, false)", x.let(3, false), false);
        due("heard()", x.heard(), 55);
        due("let(3, false)", x.let(3, false), false);
        due("let(3, true)", x.let(3, true), true);
        due("let(3, true)", x.let(3, true), true);
        x.setLeastTrust(60);
        due("let(3, true) below the least trust", x.let(3, true), false);
        x.setTrust(3, 60);
        due("let(3, true) at the least trust", x.let(3, true), true);
        due("heard()", x.heard(), 8);
        for (int k : NOT_SIX) {
            refused(INDEX, x, "let(" + k + ", false)", () -> x.let(k, false));
            refused(INDEX, x, "let(" + k + ", true)", () -> x.let(k, true));
        }
    }

    private static void setRule() {
        promise = "promise 12";
        RumourReasoner x = withAtoms();
        due("setRule(0, 5)", x.setRule(0, 5), -1);
        due("setRule(0, 0)", x.setRule(0, 0), 5);
        due("setRule(0, -1)", x.setRule(0, -1), 0);
        due("setRule(0, -1)", x.setRule(0, -1), -1);
        int open = x.turn(8, 0);
        int cond = x.join(7, 0, 1);
        int hidden = x.turn(2, open);
        refused(ARGUMENT, x, "setRule(5, OPEN)", () -> x.setRule(5, open));
        refused(ARGUMENT, x, "setRule(5, IF)", () -> x.setRule(5, cond));
        refused(ARGUMENT, x, "setRule(5, NOT OPEN)", () -> x.setRule(5, hidden));
        for (int k : NOT_SIX) {
            refused(INDEX, x, "setRule(" + k + ", 0)", () -> x.setRule(k, 0));
            refused(INDEX, x, "setRule(" + k + ", -1)", () -> x.setRule(k, -1));
            refused(INDEX, x, "setRule(" + k + ", OPEN)", () -> x.setRule(k, open));
        }
        for (int f : new int[] {-2, 9, 40, Integer.MIN_VALUE, Integer.MAX_VALUE}) {
            refused(INDEX, x, "setRule(5, " + f + ")", () -> x.setRule(5, f));
        }
        due("setRule(5, 2)", x.setRule(5, 2), -1);
        refused(ARGUMENT, x, "setRule(5, OPEN)", () -> x.setRule(5, open));
        due("setRule(5, -1)", x.setRule(5, -1), 2);
    }

    private static void given() {
        promise = "promise 13";
        RumourReasoner x = withAtoms();
        x.report(0, 5, TRUE);
        x.report(1, 5, FALSE);
        x.report(2, 4, FALSE);
        x.report(3, 3, BOTH);
        x.report(4, 3, NONE);
        x.setRule(0, 5);
        int[] want = {NONE, NONE, NONE, BOTH, FALSE, BOTH};
        for (int p = 0; p < 6; p++) {
            due("given(" + p + ")", x.given(p), want[p]);
        }
        x.let(0, false);
        due("given(5) without source 0", x.given(5), FALSE);
        x.let(0, true);
        x.setTrust(1, 49);
        x.setLeastTrust(50);
        due("given(5) without source 1", x.given(5), TRUE);
        for (int k : NOT_SIX) {
            refused(INDEX, x, "given(" + k + ")", () -> x.given(k));
        }
    }

    private static void settled() {
        promise = "promise 14";
        RumourReasoner x = withAtoms();
        x.report(0, 0, TRUE);
        x.report(1, 1, FALSE);
        x.setRule(1, 0);
        x.setRule(2, 1);
        x.setRule(3, x.join(3, 0, 2));
        x.setRule(0, 5);
        int[] want = {TRUE, BOTH, BOTH, BOTH, NONE, NONE};
        for (int p = 0; p < 6; p++) {
            due("settled(" + p + ")", x.settled(p), want[p]);
        }
        x.let(1, false);
        due("settled(3)", x.settled(3), TRUE);
        x.let(0, false);
        due("settled(3)", x.settled(3), NONE);
        // A rule that speaks of its own atom only adds to what is given.
        x.setRule(4, x.turn(2, 4));
        due("settled(4)", x.settled(4), NONE);
        x.report(5, 4, TRUE);
        due("settled(4)", x.settled(4), BOTH);
        RumourReasoner ring = ring();
        for (int p = 0; p < 6; p++) {
            due("settled(" + p + ") in a ring", ring.settled(p), BOTH);
        }
        for (int k : NOT_SIX) {
            refused(INDEX, x, "settled(" + k + ")", () -> x.settled(k));
        }
    }

    private static void rounds() {
        promise = "promise 15";
        RumourReasoner x = withAtoms();
        x.report(0, 0, TRUE);
        due("rounds() without rules", x.rounds(), 0);
        x.setRule(0, 0);
        due("rounds() with a rule that changes nothing", x.rounds(), 0);
        for (int p = 1; p < 6; p++) {
            x.setRule(p, p - 1);
            due("rounds() of a chain", x.rounds(), p);
        }
        x.setRule(5, 0);
        due("rounds() of a shorter chain", x.rounds(), 4);
        x.let(0, false);
        due("rounds() with nothing said", x.rounds(), 0);
        due("rounds() of the longest ring", ring().rounds(), 12);
    }

    private static void since() {
        promise = "promise 16";
        RumourReasoner x = withAtoms();
        x.report(0, 0, TRUE);
        x.report(0, 1, FALSE);
        x.setRule(1, 0);
        x.setRule(2, 1);
        due("since(0, true)", x.since(0, true), 0);
        due("since(0, false)", x.since(0, false), -1);
        due("since(1, false)", x.since(1, false), 0);
        due("since(1, true)", x.since(1, true), 1);
        due("since(2, false)", x.since(2, false), 1);
        due("since(2, true)", x.since(2, true), 2);
        due("since(5, true)", x.since(5, true), -1);
        x.let(0, false);
        due("since(0, true) with nobody heard", x.since(0, true), -1);
        RumourReasoner ring = ring();
        for (int p = 0; p < 6; p++) {
            due("since(" + p + ", true) in a ring", ring.since(p, true), p + 1);
            due("since(" + p + ", false) in a ring", ring.since(p, false), p + 7);
        }
        for (int k : NOT_SIX) {
            refused(INDEX, x, "since(" + k + ", true)", () -> x.since(k, true));
            refused(INDEX, x, "since(" + k + ", false)", () -> x.since(k, false));
        }
    }

    private static void value() {
        promise = "promise 17";
        RumourReasoner x = withAtoms();
        x.report(0, 0, TRUE);
        x.report(1, 1, FALSE);
        x.setRule(2, 0);
        x.setRule(3, 1);
        int conflict = x.join(6, 2, 3);
        int open = x.turn(8, 5);
        due("value of a MERGE of settled values", x.value(conflict), BOTH);
        due("value of an OPEN of NONE", x.value(open), BOTH);
        due("value of an atom that is not given", x.value(3), FALSE);
        due("value of an IF", x.value(x.join(7, 0, 1)), FALSE);
        x.setLogic(1);
        due("value in another logic", x.value(conflict), BOTH);
        x.let(1, false);
        due("value without source 1", x.value(conflict), TRUE);
        for (int f : new int[] {-1, 9, 40, Integer.MIN_VALUE, Integer.MAX_VALUE}) {
            refused(INDEX, x, "value(" + f + ")", () -> x.value(f));
        }
        RumourReasoner none = new RumourReasoner();
        refused(INDEX, none, "value(0) without formulas", () -> none.value(0));
    }

    private static void conflictsAndGaps() {
        RumourReasoner x = withAtoms();
        promise = "promise 18";
        due("conflicts()", x.conflicts(), 0);
        promise = "promise 19";
        due("gaps()", x.gaps(), 63);
        x.report(0, 0, BOTH);
        x.report(0, 1, TRUE);
        x.report(0, 2, FALSE);
        x.report(1, 1, FALSE);
        x.report(2, 5, FALSE);
        x.setRule(4, 0);
        promise = "promise 18";
        due("conflicts()", x.conflicts(), 1 + 2 + 16);
        due("conflicts() of a ring", ring().conflicts(), 63);
        promise = "promise 19";
        due("gaps()", x.gaps(), 8);
        due("gaps() of a ring", ring().gaps(), 0);
        x.let(0, false);
        promise = "promise 18";
        due("conflicts() without source 0", x.conflicts(), 0);
        promise = "promise 19";
        due("gaps() without source 0", x.gaps(), 1 + 4 + 8 + 16);
    }

    private static void discord() {
        promise = "promise 20";
        RumourReasoner x = withAtoms();
        due("discord() of nothing", x.discord(), 0.0);
        x.report(0, 0, TRUE);
        due("discord()", x.discord(), 0.0);
        x.report(1, 0, FALSE);
        due("discord()", x.discord(), 1.0);
        x.report(1, 1, FALSE);
        due("discord()", x.discord(), 0.5);
        x.report(1, 2, FALSE);
        due("discord()", x.discord(), 1.0 / 3.0);
        x.setRule(5, 0);
        due("discord() with a rule", x.discord(), 2.0 / 4.0);
        x.report(2, 3, TRUE);
        due("discord()", x.discord(), 2.0 / 5.0);
        x.report(2, 4, BOTH);
        due("discord()", x.discord(), 3.0 / 6.0);
        x.let(1, false);
        due("discord() without source 1", x.discord(), 1.0 / 4.0);
        due("discord() of a ring", ring().discord(), 1.0);
    }

    private static void heard() {
        promise = "promise 21";
        RumourReasoner x = new RumourReasoner();
        for (int source = 0; source < 6; source++) {
            x.setTrust(source, 10 * source + 10);
        }
        int[] want = {63, 62, 60, 56, 48, 32};
        for (int source = 0; source < 6; source++) {
            x.setLeastTrust(10 * source + 10);
            due("heard() at the trust of " + source, x.heard(), want[source]);
            x.setLeastTrust(10 * source + 11);
            due("heard() above the trust of " + source, x.heard(), want[source] & ~(1 << source));
        }
        x.setLeastTrust(1);
        x.let(0, false);
        x.let(4, false);
        due("heard() without 0 and 4", x.heard(), 46);
    }

    private static void sayers() {
        promise = "promise 22";
        RumourReasoner x = withAtoms();
        x.report(0, 2, TRUE);
        x.report(1, 2, FALSE);
        x.report(2, 2, BOTH);
        x.report(5, 2, TRUE);
        x.report(4, 3, TRUE);
        x.setRule(0, 2);
        due("sayers(2, true)", x.sayers(2, true), 1 + 4 + 32);
        due("sayers(2, false)", x.sayers(2, false), 2 + 4);
        due("sayers(3, true)", x.sayers(3, true), 16);
        due("sayers(3, false)", x.sayers(3, false), 0);
        due("sayers(0, true) of what only a rule tells", x.sayers(0, true), 0);
        x.let(2, false);
        x.setTrust(0, 9);
        x.setLeastTrust(10);
        due("sayers(2, true)", x.sayers(2, true), 32);
        due("sayers(2, false)", x.sayers(2, false), 2);
        for (int k : NOT_SIX) {
            refused(INDEX, x, "sayers(" + k + ", true)", () -> x.sayers(k, true));
            refused(INDEX, x, "sayers(" + k + ", false)", () -> x.sayers(k, false));
        }
    }

    private static void matters() {
        promise = "promise 23";
        RumourReasoner x = withAtoms();
        x.report(0, 0, TRUE);
        x.report(1, 0, TRUE);
        x.report(2, 1, FALSE);
        x.setRule(5, 1);
        due("one of two that say the same", x.matters(0, 0), false);
        due("the only one", x.matters(2, 1), true);
        due("the only one, through a rule", x.matters(2, 5), true);
        due("one that says nothing of it", x.matters(2, 0), false);
        x.let(1, false);
        due("the only one that is left", x.matters(0, 0), true);
        due("one that is off", x.matters(1, 0), false);
        due("heard() afterwards", x.heard(), 61);
        x.setTrust(2, 2);
        x.setLeastTrust(3);
        due("one that is not trusted", x.matters(2, 1), false);
        x.report(3, 0, BOTH);
        due("one that adds a FALSE", x.matters(3, 0), true);
        due("one that adds nothing to BOTH", x.matters(0, 0), false);
        x.setRule(4, x.constant(TRUE));
        due("one that says nothing of what a rule tells", x.matters(0, 4), false);
        x.report(0, 4, TRUE);
        due("one that says what a rule tells too", x.matters(0, 4), false);
        for (int k : NOT_SIX) {
            refused(INDEX, x, "matters(" + k + ", 0)", () -> x.matters(k, 0));
            refused(INDEX, x, "matters(0, " + k + ")", () -> x.matters(0, k));
        }
    }

    private static void silence() {
        promise = "promise 24";
        RumourReasoner x = withAtoms();
        due("nothing said", x.silence(), 0);
        x.report(0, 0, TRUE);
        x.report(1, 0, FALSE);
        x.report(2, 0, FALSE);
        due("one against two", x.silence(), 1);
        x.setTrust(0, 100);
        due("the same sum: the smaller number", x.silence(), 1);
        x.setTrust(1, 49);
        due("the two have a smaller sum", x.silence(), 6);
        due("heard() afterwards", x.heard(), 63);
        x.let(1, false);
        due("only those that are heard", x.silence(), 4);
        x.let(1, true);
        x.setLeastTrust(50);
        due("only those that are trusted", x.silence(), 4);
        x.setLeastTrust(1);
        x.report(5, 3, BOTH);
        due("one that contradicts itself", x.silence(), 6 + 32);
        x.setRule(4, x.constant(BOTH));
        due("a rule that contradicts itself", x.silence(), -1);
        x.setRule(4, -1);
        x.setRule(4, x.join(6, 0, x.turn(2, 0)));
        due("a rule that contradicts each report of 0", x.silence(), 1 + 2 + 4 + 32);
        x.let(0, false);
        x.let(1, false);
        x.let(2, false);
        x.let(5, false);
        due("nobody heard who says something", x.silence(), 0);
        due("a ring of rules", ring().silence(), -1);
        RumourReasoner all = new RumourReasoner();
        for (int k = 0; k < 6; k++) {
            all.setTrust(k, 100);
            all.report(k, k, BOTH);
        }
        due("all, with the greatest trusts", all.silence(), 63);
        x = new RumourReasoner();
        for (int k = 0; k < 4; k++) {
            x.report(k, 0, k < 2 ? TRUE : FALSE);
        }
        due("two against two: the smaller number", x.silence(), 3);
        x.setTrust(2, 49);
        due("two against two: the smaller sum", x.silence(), 12);
        x = new RumourReasoner();
        x.report(4, 5, FALSE);
        x.report(5, 5, TRUE);
        due("the last two sources", x.silence(), 16);
        x.setTrust(5, 49);
        due("the last source has the smaller trust", x.silence(), 32);
    }

    private static void contradicted() {
        promise = "promise 25";
        RumourReasoner x = withAtoms();
        x.report(0, 0, TRUE);
        x.report(1, 0, FALSE);
        due("contradicted(0)", x.contradicted(0), 1);
        due("contradicted(1)", x.contradicted(1), 1);
        due("contradicted(2)", x.contradicted(2), 0);
        x.report(2, 5, BOTH);
        due("one that contradicts itself, once for an atom", x.contradicted(2), 1);
        x.report(0, 5, TRUE);
        due("contradicted(0)", x.contradicted(0), 2);
        x.report(3, 1, FALSE);
        x.setRule(1, 0);
        due("by a rule", x.contradicted(3), 1);
        x.let(1, false);
        due("one that is off is compared too", x.contradicted(1), 1);
        due("contradicted(0) without source 1", x.contradicted(0), 1);
        x.let(0, false);
        due("one that is off and finds nothing told", x.contradicted(1), 0);
        for (int p = 0; p < 6; p++) {
            x.report(4, p, TRUE);
            x.report(5, p, FALSE);
        }
        due("contradicted(4)", x.contradicted(4), 6);
        due("contradicted(5)", x.contradicted(5), 6);
        for (int k : NOT_SIX) {
            refused(INDEX, x, "contradicted(" + k + ")", () -> x.contradicted(k));
        }
    }

    private static void setLogic() {
        promise = "promise 26";
        RumourReasoner x = withAtoms();
        int before = 15;
        for (int values = 1; values <= 15; values++) {
            due("setLogic(" + values + ")", x.setLogic(values), before);
            due("range of an atom", x.range(3), values);
            before = values;
        }
        for (int values : new int[] {0, -1, 16, Integer.MIN_VALUE, Integer.MAX_VALUE}) {
            refused(ARGUMENT, x, "setLogic(" + values + ")", () -> x.setLogic(values));
        }
        due("setLogic(15)", x.setLogic(15), 15);
    }

    private static void models() {
        promise = "promise 27";
        RumourReasoner x = withAtoms();
        int and = x.join(3, 0, 5);
        int yes = x.constant(BOTH);
        int no = x.constant(FALSE);
        due("of an atom", x.models(2), 2048);
        due("of an AND", x.models(and), 1024);
        due("of BOTH", x.models(yes), 4096);
        due("of FALSE", x.models(no), 0);
        x.setLogic(6);
        due("of an atom in two values", x.models(2), 32);
        due("of an AND in two values", x.models(and), 16);
        due("of BOTH in two values", x.models(yes), 64);
        x.setLogic(7);
        due("of an atom in three values, one of them told true", x.models(4), 243);
        x.setLogic(14);
        due("of an atom in three values, two of them told true", x.models(4), 486);
        due("of an AND in three values", x.models(and), 324);
        x.setLogic(2);
        due("of an atom in one value", x.models(0), 1);
        x.setLogic(4);
        due("of an atom in one value that is not told true", x.models(0), 0);
        for (int f : new int[] {-1, 9, 40, Integer.MIN_VALUE, Integer.MAX_VALUE}) {
            refused(INDEX, x, "models(" + f + ")", () -> x.models(f));
        }
    }

    private static void range() {
        promise = "promise 28";
        RumourReasoner x = withAtoms();
        int conflict = x.join(3, 4, x.turn(2, 4));
        int merge = x.join(6, 0, 1);
        int open = x.turn(8, 0);
        due("of p AND NOT p", x.range(conflict), 1 + 4 + 8);
        due("of a MERGE", x.range(merge), 15);
        x.setLogic(6);
        due("of p AND NOT p in two values", x.range(conflict), 4);
        due("of a MERGE in two values", x.range(merge), 2 + 4 + 8);
        x.setLogic(1);
        due("of an OPEN of NONE", x.range(open), 8);
        x.setLogic(8);
        due("of an OPEN of BOTH", x.range(open), 1);
        due("of p AND NOT p of BOTH", x.range(conflict), 8);
        for (int f : new int[] {-1, 10, 40, Integer.MIN_VALUE, Integer.MAX_VALUE}) {
            refused(INDEX, x, "range(" + f + ")", () -> x.range(f));
        }
    }

    private static void entailsAndAgainst() {
        RumourReasoner x = withAtoms();
        int and = x.join(3, 0, 1);
        int clash = x.join(3, 3, x.turn(2, 3));
        int choice = x.join(4, 3, x.turn(2, 3));
        // From each row: the logic, a, b, and the smallest valuation against it.
        int[][] rows = {
            {15, and, 0, -1}, {15, 0, and, 1024}, {15, 0, 0, -1}, {15, clash, 5, 3 * 16}, {15, 5, choice, 1},
            {15, 5, 4, 1}, {15, 4, 5, 4}, {15, 2, 3, 64}, {15, 3, 2, 16}, {15, 0, 5, 1024},
            {6, clash, 5, -1}, {6, 5, choice, -1}, {6, 0, and, 1024 + 2 * 256 + 85},
            {6, 5, 4, 4 * (2 + 4 * (1 + 4 * (1 + 4 * (1 + 4)))) + 1}, {14, clash, 5, 1024 + 256 + 64 + 3 * 16 + 4 + 2},
            {14, 5, choice, -1}, {7, clash, 5, -1}, {7, 5, choice, 1}, {1, 0, 1, -1}, {2, 0, clash, 1365},
            {4, 0, clash, -1}, {8, 0, clash, -1}, {9, 0, 5, 3072}, {12, 0, 5, 3072 + 682}, {12, 5, 0, 2731},
        };
        for (int[] row : rows) {
            x.setLogic(row[0]);
            int want = row[3];
            String call = "(" + row[1] + ", " + row[2] + ") in logic " + row[0];
            promise = "promise 29";
            due("entails" + call, x.entails(row[1], row[2]), want == -1);
            promise = "promise 30";
            due("against" + call, x.against(row[1], row[2]), want);
        }
        x.setLogic(15);
        int corner = x.join(3, x.join(3, x.join(3, corner(x, true), 3), 4), 5);
        promise = "promise 29";
        due("entails, of the last word alone, what is true there", x.entails(corner, 6), true);
        due("entails, of the last word alone, NONE", x.entails(corner, x.constant(0)), false);
        promise = "promise 30";
        due("against, in the last word alone", x.against(corner, x.constant(FALSE)), 4032 + 16 + 4 + 1);
        int count = x.formulaCount();
        for (int f : new int[] {-1, count, 40, Integer.MIN_VALUE, Integer.MAX_VALUE}) {
            promise = "promise 29";
            refused(INDEX, x, "entails(" + f + ", 0)", () -> x.entails(f, 0));
            refused(INDEX, x, "entails(0, " + f + ")", () -> x.entails(0, f));
            promise = "promise 30";
            refused(INDEX, x, "against(" + f + ", 0)", () -> x.against(f, 0));
            refused(INDEX, x, "against(0, " + f + ")", () -> x.against(0, f));
        }
    }

    private static void areEqual() {
        promise = "promise 31";
        RumourReasoner x = withAtoms();
        int back = x.turn(2, x.turn(2, 0));
        int and = x.join(3, 0, 1);
        int agree = x.join(5, 0, 1);
        int cond = x.join(7, 0, 1);
        int no = x.constant(FALSE);
        int either = x.join(4, x.turn(2, 0), 1);
        due("p and NOT NOT p", x.areEqual(0, back), true);
        due("p and q", x.areEqual(0, 1), false);
        due("AND and AGREE, which are told true alike", x.areEqual(and, agree), false);
        due("IF and NOT p OR q", x.areEqual(cond, either), false);
        due("a formula and itself", x.areEqual(agree, agree), true);
        due("p AND q and FALSE", x.areEqual(and, no), false);
        x.setLogic(6);
        due("IF and NOT p OR q in two values", x.areEqual(cond, either), true);
        due("AND and AGREE in two values", x.areEqual(and, agree), false);
        x.setLogic(1);
        due("p and q in one value", x.areEqual(0, 1), true);
        x.setLogic(2);
        due("AND and AGREE in one value", x.areEqual(and, agree), true);
        due("p and FALSE, of other values", x.areEqual(0, no), false);
        x.setLogic(9);
        due("last two atoms", x.areEqual(4, 5), false);
        for (int v = NONE; v <= BOTH; v += BOTH) {
            RumourReasoner y = withAtoms();
            int odd = y.join(7, corner(y, v == BOTH), y.constant(BOTH));
            int yes = y.constant(TRUE);
            due("two that differ only where the atoms 0 to 2 are " + v, y.areEqual(odd, yes), false);
            y.setLogic(15 - (1 << v));
            due("the same two without the value " + v, y.areEqual(odd, yes), true);
        }
        int count = x.formulaCount();
        for (int f : new int[] {-1, count, 40, Integer.MIN_VALUE, Integer.MAX_VALUE}) {
            refused(INDEX, x, "areEqual(" + f + ", 0)", () -> x.areEqual(f, 0));
            refused(INDEX, x, "areEqual(0, " + f + ")", () -> x.areEqual(0, f));
        }
    }

    private static void depends() {
        promise = "promise 32";
        for (int logic = 1; logic <= 15; logic++) {
            RumourReasoner x = withAtoms();
            int clash = x.join(3, 2, x.turn(2, 2));
            int sum = x.join(6, 4, x.turn(8, 4));
            x.setLogic(logic);
            boolean isWide = Integer.bitCount(logic) > 1;
            for (int f = 0; f < 6; f++) {
                for (int p = 0; p < 6; p++) {
                    due("atom " + f + " on " + p + " in logic " + logic, x.depends(f, p), isWide && f == p);
                }
            }
            // p AND NOT p is NONE, FALSE, FALSE, BOTH; the MERGE of p and OPEN p is BOTH, TRUE, FALSE, BOTH.
            due("p AND NOT p in logic " + logic, x.depends(clash, 2), isWide && logic != 6);
            due("p MERGE OPEN p in logic " + logic, x.depends(sum, 4), isWide && logic != 9);
            due("p AND NOT p on another in logic " + logic, x.depends(clash, 3), false);
        }
        for (int v = NONE; v <= BOTH; v += BOTH) {
            RumourReasoner y = withAtoms();
            int odd = y.join(7, corner(y, v == BOTH), 5);
            due("on 5 only where the atoms 0 to 2 are " + v, y.depends(odd, 5), true);
            due("on 1 if the atoms 0 and 2 are " + v, y.depends(odd, 1), true);
            due("on 4 never", y.depends(odd, 4), false);
            y.setLogic(15 - (1 << v));
            due("on 5 without the value " + v, y.depends(odd, 5), false);
            due("on 1 without the value " + v, y.depends(odd, 1), false);
        }
        RumourReasoner x = withAtoms();
        for (int f : new int[] {-1, 6, 40, Integer.MIN_VALUE, Integer.MAX_VALUE}) {
            refused(INDEX, x, "depends(" + f + ", 0)", () -> x.depends(f, 0));
        }
        for (int k : NOT_SIX) {
            refused(INDEX, x, "depends(0, " + k + ")", () -> x.depends(0, k));
        }
    }

    private static void valueAt() {
        promise = "promise 33";
        RumourReasoner x = withAtoms();
        int and = x.join(3, 0, 5);
        x.setLogic(1);
        due("valueAt, not of the logic", x.valueAt(and, 3 * 1024 + 1), BOTH);
        due("valueAt(.., 0)", x.valueAt(and, 0), NONE);
        due("valueAt(.., 4095)", x.valueAt(and, 4095), BOTH);
        int[] digits = {3, 1, 0, 2, 1, 3};
        int number = 0;
        for (int digit : digits) {
            number = 4 * number + digit;
        }
        for (int p = 0; p < 6; p++) {
            due("valueAt(" + p + ", " + number + ")", x.valueAt(p, number), digits[p]);
        }
        for (int n : new int[] {-1, 4096, Integer.MIN_VALUE, Integer.MAX_VALUE}) {
            refused(ARGUMENT, x, "valueAt(0, " + n + ")", () -> x.valueAt(0, n));
        }
        for (int f : new int[] {-1, 7, 40, Integer.MIN_VALUE, Integer.MAX_VALUE}) {
            refused(INDEX, x, "valueAt(" + f + ", 0)", () -> x.valueAt(f, 0));
            refused(INDEX, x, "valueAt(" + f + ", 4096)", () -> x.valueAt(f, 4096));
        }
    }

    private static void digest() {
        promise = "promise 34";
        RumourReasoner x = new RumourReasoner();
        due("digest() of a new object", x.digest(), mixed(0, 1,
                50, 1, 0, 0, 0, 0, 0, 0, 50, 1, 0, 0, 0, 0, 0, 0, 50, 1, 0, 0, 0, 0, 0, 0,
                50, 1, 0, 0, 0, 0, 0, 0, 50, 1, 0, 0, 0, 0, 0, 0, 50, 1, 0, 0, 0, 0, 0, 0,
                -1, 0, 0, -1, 0, 0, -1, 0, 0, -1, 0, 0, -1, 0, 0, -1, 0, 0, 0, 15));
        x.atom(0);
        x.constant(3);
        x.turn(2, 0);
        for (int kind = 3; kind <= 7; kind++) {
            x.join(kind, 0, 1);
        }
        x.turn(8, 0);
        x.atom(1);
        x.setLeastTrust(40);
        x.setTrust(0, 60);
        x.setTrust(1, 39);
        x.let(2, false);
        x.report(0, 0, 1);
        x.report(0, 5, 2);
        x.report(1, 1, 3);
        x.report(2, 2, 1);
        x.report(5, 4, 3);
        x.setRule(1, 2);
        x.setRule(2, 9);
        x.setRule(5, 0);
        x.setLogic(6);
        due("digest()", x.digest(), mixed(10, 0, 1, 2, 3, 4, 5, 6, 7, 8, 0, 40,
                60, 1, 1, 0, 0, 0, 0, 2, 39, 1, 0, 3, 0, 0, 0, 0, 50, 0, 0, 0, 1, 0, 0, 0,
                50, 1, 0, 0, 0, 0, 0, 0, 50, 1, 0, 0, 0, 0, 0, 0, 50, 1, 0, 0, 0, 0, 3, 0,
                -1, 1, 1, 2, 0, 2, 9, 0, 2, -1, 0, 0, -1, 3, 3, 0, 2, 3, 2, 6));
    }
}
