import java.math.BigInteger;
import java.util.ArrayList;
import java.util.List;

/** Each sentence of the document's promises 1 to 34, at its boundaries. */
public final class PromiseEdgesTest {
    private static final int[] NOT_TURNS = {
        -1, 0, 1, 3, 4, 5, 6, 7, 9, 10, Edges.LEAST, Edges.LEAST + 2, Edges.LEAST + 8, Edges.GREATEST
    };
    private static final int[] NOT_JOINS = {
        -1, 0, 1, 2, 8, 9, 10, Edges.LEAST, Edges.LEAST + 3, Edges.GREATEST
    };
    private static final int[] NOT_LOGICS = {0, 16, -1, -15, 17, 31, 32, Edges.LEAST, Edges.LEAST + 1, Edges.GREATEST};
    private static final int[] NOT_VALUATIONS = {
        -1, 4096, -2, 4097, -4096, 8191, 65536, Edges.LEAST, Edges.LEAST + 1, Edges.GREATEST
    };
    private static String here = "";

    public static void main(String[] args) throws Exception {
        newObject();
        atom();
        constant();
        turn();
        join();
        formulaCount();
        isSteady();
        report();
        setTrust();
        setLeastTrust();
        let();
        setRule();
        given();
        settled();
        rounds();
        since();
        value();
        conflicts();
        gaps();
        discord();
        heard();
        sayers();
        matters();
        silence();
        silenceOfSeveral();
        contradicted();
        setLogic();
        models();
        range();
        entails();
        against();
        areEqual();
        depends();
        valueAt();
        digest();
        String[] all = new String[34];
        for (int number = 1; number <= 34; number++) {
            all[number - 1] = "Promise " + number;
        }
        Edges.end("PromiseEdgesTest", args, all);
    }

    // ---- helpers

    private static void promise(int number) {
        here = "Promise " + number;
    }

    private static void sentence(String text) {
        Edges.sentence(here, text);
    }

    private static void due(String what, Object got, Object want) {
        Edges.due(what, got, want);
    }

    private static void noSuchFormula(Edges.CallWith... calls) {
        sentence("Throws IndexOutOfBoundsException if there is no such formula");
        for (Edges.CallWith call : calls) {
            Edges.formulasOnly(call);
        }
    }

    private static void notSix(String text, Edges.CallWith... calls) {
        sentence("Throws IndexOutOfBoundsException if " + text + " is not 0 to 5");
        for (Edges.CallWith call : calls) {
            Edges.takenEach(Edges::fresh, 0, 5, call);
            Edges.takenEach(Edges::busy, 0, 5, call);
            Edges.refusedEach(Edges::fresh, Edges.INDEX, Edges.NOT_SIX, call);
            Edges.refusedEach(Edges::busy, Edges.INDEX, Edges.NOT_SIX, call);
        }
    }

    private static void fortyFormulas(Edges.Call... calls) {
        sentence("Throws IllegalStateException if there are 40 formulas");
        for (Edges.Call call : calls) {
            Edges.taken(() -> Edges.withFormulas(39), "the 40th", call);
            Edges.refused(() -> Edges.withFormulas(40), Edges.STATE, "the 41st", call);
            Edges.refused(Edges::full, Edges.STATE, "the 41st", call);
        }
        RumourReasoner x = Edges.withFormulas(40);
        for (Edges.Call call : calls) {
            due("the 41st, tried once more", Edges.answer(x, call), Edges.STATE.getName());
        }
        due("formulaCount()", x.formulaCount(), 40);
    }

    /** Each of the six sources says the value of each of the six atoms. */
    private static RumourReasoner allSay(int value) {
        RumourReasoner x = Edges.withAtoms();
        for (int source = 0; source < 6; source++) {
            for (int p = 0; p < 6; p++) {
                x.report(source, p, value);
            }
        }
        return x;
    }

    private static void letAll(RumourReasoner x, boolean isOn) {
        for (int source = 0; source < 6; source++) {
            x.let(source, isOn);
        }
    }

    /** A formula that is told true for one valuation alone. */
    private static int just(RumourReasoner x, int v) {
        int all = x.constant(Edges.TRUE);
        for (int p = 0; p < 6; p++) {
            int part = v == Edges.NONE ? x.turn(8, p) : p;
            all = x.join(3, all, x.join(3, part, x.turn(2, part)));
        }
        return all;
    }

    // ---- formulas

    private static void newObject() {
        promise(1);
        sentence("Creates a reasoner without formulas and rules, whose sources say nothing.");
        due("formulaCount()", new RumourReasoner().formulaCount(), 0);
        for (int f : new int[] {-1, 0, 1, 39, 40}) {
            due("isSteady(" + f + ")", Edges.answer(new RumourReasoner(), x -> x.isSteady(f)), Edges.INDEX.getName());
        }
        for (int p = 0; p < 6; p++) {
            RumourReasoner x = new RumourReasoner();
            due("its rule", x.setRule(p, -1), -1);
            due("given", x.given(p), 0);
            due("settled", x.settled(p), 0);
            due("since, true", x.since(p, true), -1);
            due("since, false", x.since(p, false), -1);
            due("sayers, true", x.sayers(p, true), 0);
            due("sayers, false", x.sayers(p, false), 0);
            for (int source = 0; source < 6; source++) {
                due("matters", x.matters(source, p), false);
                due("what is said", x.report(source, p, 0), 0);
                due("contradicted", x.contradicted(source), 0);
            }
        }
        RumourReasoner x = new RumourReasoner();
        RumourReasoner busy = Edges.busy();
        due("another new one", Edges.view(new RumourReasoner()), Edges.view(x));
        due("an object is not changed by another one", Edges.view(busy), Edges.view(Edges.busy()));
    }

    private static void atom() {
        promise(2);
        sentence("Creates an ATOM.");
        for (int p = 0; p < 6; p++) {
            RumourReasoner x = new RumourReasoner();
            int f = x.atom(p);
            for (int v = 0; v < 4; v++) {
                due("atom " + p + " of " + v, x.valueAt(f, v * Edges.placeOf(p)), v);
            }
            for (int other = 0; other < 6; other++) {
                due("whether it depends on " + other, x.depends(f, other), other == p);
            }
        }
        sentence("Returns the number of the formula.");
        numbers(x -> x.atom(5));
        notSix("p", (x, p) -> x.atom(p));
        Edges.refusedEach(Edges::full, Edges.INDEX, Edges.NOT_SIX, (x, p) -> x.atom(p));
        fortyFormulas(x -> x.atom(0), x -> x.atom(5));
    }

    private static void numbers(Edges.Call call) {
        for (int count : new int[] {0, 1, 6, 38, 39}) {
            due("after " + count + " others", Edges.answer(Edges.withFormulas(count), call), count);
        }
    }

    private static void constant() {
        promise(3);
        sentence("Creates a VALUE.");
        for (int v = 0; v < 4; v++) {
            RumourReasoner x = new RumourReasoner();
            int f = x.constant(v);
            due("the values of the VALUE " + v, x.range(f), 1 << v);
            for (int p = 0; p < 6; p++) {
                due("whether it depends on " + p, x.depends(f, p), false);
            }
        }
        sentence("Returns the number of the formula.");
        numbers(x -> x.constant(3));
        sentence("Throws IllegalArgumentException if v is not 0 to 3");
        Edges.takenEach(Edges::busy, 0, 3, (x, v) -> x.constant(v));
        Edges.refusedEach(Edges::fresh, Edges.ARGUMENT, Edges.NOT_VALUES, (x, v) -> x.constant(v));
        Edges.refusedEach(Edges::busy, Edges.ARGUMENT, Edges.NOT_VALUES, (x, v) -> x.constant(v));
        Edges.refusedEach(Edges::full, Edges.ARGUMENT, Edges.NOT_VALUES, (x, v) -> x.constant(v));
        fortyFormulas(x -> x.constant(0), x -> x.constant(3));
    }

    private static void turn() {
        promise(4);
        sentence("Creates a NOT or an OPEN.");
        RumourReasoner x = Edges.withAtoms();
        for (int v = 0; v < 4; v++) {
            due("NOT " + v, x.range(x.turn(2, x.constant(v))), 1 << new int[] {0, 2, 1, 3}[v]);
            due("OPEN " + v, x.range(x.turn(8, x.constant(v))), 1 << new int[] {3, 1, 2, 0}[v]);
        }
        due("a NOT of the newest formula", x.turn(2, x.formulaCount() - 1), x.formulaCount() - 1);
        sentence("- kind: 2 or 8");
        Edges.taken(Edges::busy, "2", y -> y.turn(2, 0));
        Edges.taken(Edges::busy, "8", y -> y.turn(8, 0));
        for (int kind : new int[] {1, 3, 7, 9}) {
            Edges.refused(Edges::busy, Edges.ARGUMENT, "turn(" + kind + ", 0)", y -> y.turn(kind, 0));
        }
        sentence("Returns the number of the new formula.");
        for (int kind = 2; kind <= 8; kind += 6) {
            for (int count : new int[] {1, 2, 38, 39}) {
                due("after " + count + " others", Edges.withFormulas(count).turn(kind, count - 1), count);
            }
        }
        sentence("Throws IndexOutOfBoundsException if there is no such formula");
        Edges.partsOnly((y, a) -> y.turn(2, a));
        Edges.partsOnly((y, a) -> y.turn(8, a));
        sentence("Throws IllegalArgumentException if kind is not 2 or 8");
        Edges.refusedEach(() -> Edges.withFormulas(1), Edges.ARGUMENT, NOT_TURNS, (y, kind) -> y.turn(kind, 0));
        Edges.refusedEach(Edges::busy, Edges.ARGUMENT, NOT_TURNS, (y, kind) -> y.turn(kind, 13));
        Edges.refusedEach(Edges::full, Edges.ARGUMENT, NOT_TURNS, (y, kind) -> y.turn(kind, 39));
        Edges.refusedEach(Edges::busy, Edges.INDEX, NOT_TURNS, (y, kind) -> y.turn(kind, 14));
        fortyFormulas(y -> y.turn(2, 0), y -> y.turn(8, 38));
    }

    private static void join() {
        promise(5);
        sentence("Creates an AND, OR, AGREE, MERGE or IF.");
        // Of TRUE and FALSE, of FALSE and TRUE, of BOTH and NONE, of NONE and BOTH.
        int[][] parts = {{1, 2}, {2, 1}, {3, 0}, {0, 3}};
        int[][] wants = {{2, 2, 2, 2}, {1, 1, 1, 1}, {0, 0, 0, 0}, {3, 3, 3, 3}, {2, 1, 0, 1}};
        for (int kind = 3; kind <= 7; kind++) {
            for (int k = 0; k < 4; k++) {
                RumourReasoner x = new RumourReasoner();
                int f = x.join(kind, x.constant(parts[k][0]), x.constant(parts[k][1]));
                due("kind " + kind + " of " + parts[k][0] + ", " + parts[k][1], x.value(f), wants[kind - 3][k]);
            }
        }
        sentence("- kind: 3 to 7");
        Edges.takenEach(Edges::busy, 3, 7, (x, kind) -> x.join(kind, 0, 13));
        Edges.refused(Edges::busy, Edges.ARGUMENT, "join(2, 0, 13)", x -> x.join(2, 0, 13));
        Edges.refused(Edges::busy, Edges.ARGUMENT, "join(8, 0, 13)", x -> x.join(8, 0, 13));
        sentence("Returns the number of the new formula.");
        for (int kind = 3; kind <= 7; kind++) {
            for (int count : new int[] {1, 2, 38, 39}) {
                due("after " + count + " others", Edges.withFormulas(count).join(kind, 0, count - 1), count);
            }
        }
        sentence("Throws IndexOutOfBoundsException if there is no such formula");
        for (int kind = 3; kind <= 7; kind++) {
            int joining = kind;
            Edges.partsOnly((x, a) -> x.join(joining, a, 0));
            Edges.partsOnly((x, b) -> x.join(joining, 0, b));
            Edges.partsOnly((x, both) -> x.join(joining, both, both));
        }
        sentence("Throws IllegalArgumentException if kind is not 3 to 7");
        Edges.refusedEach(() -> Edges.withFormulas(1), Edges.ARGUMENT, NOT_JOINS, (x, kind) -> x.join(kind, 0, 0));
        Edges.refusedEach(Edges::busy, Edges.ARGUMENT, NOT_JOINS, (x, kind) -> x.join(kind, 0, 13));
        Edges.refusedEach(Edges::full, Edges.ARGUMENT, NOT_JOINS, (x, kind) -> x.join(kind, 39, 0));
        Edges.refusedEach(Edges::busy, Edges.INDEX, NOT_JOINS, (x, kind) -> x.join(kind, 14, 0));
        Edges.refusedEach(Edges::busy, Edges.INDEX, NOT_JOINS, (x, kind) -> x.join(kind, 0, 14));
        fortyFormulas(x -> x.join(3, 0, 38), x -> x.join(7, 38, 0), x -> x.join(5, 1, 1));
    }

    private static void formulaCount() {
        promise(6);
        sentence("Returns the number of formulas.");
        for (int count = 0; count <= 40; count++) {
            due("with " + count, Edges.withFormulas(count).formulaCount(), count);
        }
        RumourReasoner x = Edges.withFormulas(40);
        due("the 41st", Edges.answer(x, y -> y.constant(0)), Edges.STATE.getName());
        due("after it", x.formulaCount(), 40);
    }

    private static void isSteady() {
        promise(7);
        sentence("Returns whether it is steady.");
        RumourReasoner x = Edges.busy();
        for (int f = 0; f < Edges.BUSY_COUNT; f++) {
            due("formula " + f, x.isSteady(f), f != Edges.OPEN_1 && f != Edges.IF_4);
        }
        RumourReasoner full = Edges.full();
        for (int f = Edges.BUSY_COUNT; f < 40; f++) {
            // Each of these is the NOT of the formula 5 before it.
            due("formula " + f, full.isSteady(f), f % 5 != Edges.IF_4 % 5);
        }
        noSuchFormula((y, f) -> y.isSteady(f));
    }

    // ---- reports and rules

    private static void report() {
        promise(8);
        sentence("Sets what a source says about an atom.");
        for (int source = 0; source < 6; source++) {
            for (int p = 0; p < 6; p++) {
                RumourReasoner x = new RumourReasoner();
                x.report(source, p, Edges.BOTH);
                due("gaps() after a report of " + p, x.gaps(), 63 - (1 << p));
                due("sayers() after a report of " + source, x.sayers(p, true), 1 << source);
                x.report(source, p, Edges.FALSE);
                due("given() after another", x.given(p), Edges.FALSE);
                x.report(source, p, Edges.NONE);
                due("gaps() after it is taken back", x.gaps(), 63);
            }
        }
        sentence("Returns the value that it said before.");
        for (int v = 0; v < 4; v++) {
            for (int w = 0; w < 4; w++) {
                RumourReasoner x = allSay(Edges.BOTH - v);
                due("the first one", x.report(0, 0, v), 3 - v);
                due("the second one", x.report(0, 0, w), v);
                due("the third one", x.report(0, 0, w), w);
                due("beside it", x.report(0, 1, w), 3 - v);
                due("of another source", x.report(1, 0, w), 3 - v);
            }
        }
        RumourReasoner off = new RumourReasoner();
        off.let(5, false);
        due("of one that is off", off.report(5, 5, 1), 0);
        due("of one that is off, again", off.report(5, 5, 2), 1);
        notSix("source or atom", (x, source) -> x.report(source, 0, 1), (x, p) -> x.report(0, p, 1),
                (x, both) -> x.report(both, both, 1), (x, p) -> x.report(5, p, 3));
        sentence("Throws IllegalArgumentException if value is not 0 to 3");
        Edges.takenEach(Edges::busy, 0, 3, (x, v) -> x.report(0, 0, v));
        Edges.refusedEach(Edges::fresh, Edges.ARGUMENT, Edges.NOT_VALUES, (x, v) -> x.report(0, 0, v));
        Edges.refusedEach(Edges::busy, Edges.ARGUMENT, Edges.NOT_VALUES, (x, v) -> x.report(5, 5, v));
        Edges.refusedEach(Edges::busy, Edges.INDEX, Edges.NOT_VALUES, (x, v) -> x.report(6, 0, v));
        Edges.refusedEach(Edges::busy, Edges.INDEX, Edges.NOT_VALUES, (x, v) -> x.report(0, -1, v));
    }

    private static void setTrust() {
        promise(9);
        sentence("Sets the trust of a source.");
        for (int source = 0; source < 6; source++) {
            RumourReasoner x = new RumourReasoner();
            x.setTrust(source, 100);
            x.setLeastTrust(100);
            due("heard() with one of the greatest trust", x.heard(), 1 << source);
            x.setTrust(source, 99);
            due("heard() with one just below", x.heard(), 0);
            x.setTrust(source, 1);
            x.setLeastTrust(2);
            due("heard() without the one of the least trust", x.heard(), 63 - (1 << source));
            x.setLeastTrust(1);
            due("heard() with it", x.heard(), 63);
        }
        sentence("Returns the trust before.");
        for (int source = 0; source < 6; source++) {
            RumourReasoner x = new RumourReasoner();
            due("the first one", x.setTrust(source, 1), 50);
            due("the second one", x.setTrust(source, 100), 1);
            due("the third one", x.setTrust(source, 100), 100);
            due("of another one", x.setTrust((source + 1) % 6, 7), 50);
        }
        notSix("source", (x, source) -> x.setTrust(source, 1), (x, source) -> x.setTrust(source, 100));
        sentence("Throws IllegalArgumentException if trust is not 1 to 100");
        for (int source = 0; source < 6; source += 5) {
            int which = source;
            Edges.takenEach(Edges::busy, 1, 100, (x, trust) -> x.setTrust(which, trust));
            Edges.refusedEach(Edges::fresh, Edges.ARGUMENT, Edges.NOT_TRUSTS, (x, trust) -> x.setTrust(which, trust));
            Edges.refusedEach(Edges::busy, Edges.ARGUMENT, Edges.NOT_TRUSTS, (x, trust) -> x.setTrust(which, trust));
        }
        Edges.refusedEach(Edges::busy, Edges.INDEX, Edges.NOT_TRUSTS, (x, trust) -> x.setTrust(6, trust));
    }

    private static void setLeastTrust() {
        promise(10);
        sentence("Sets the least trust.");
        for (int trust = 1; trust <= 100; trust++) {
            RumourReasoner x = new RumourReasoner();
            x.setLeastTrust(trust);
            due("heard() with the least trust " + trust, x.heard(), trust <= 50 ? 63 : 0);
        }
        sentence("Returns the least trust before.");
        RumourReasoner x = new RumourReasoner();
        due("the first one", x.setLeastTrust(100), 1);
        due("the second one", x.setLeastTrust(100), 100);
        due("the third one", x.setLeastTrust(1), 100);
        due("the fourth one", x.setLeastTrust(50), 1);
        sentence("Throws IllegalArgumentException if trust is not 1 to 100");
        Edges.takenEach(Edges::busy, 1, 100, (y, trust) -> y.setLeastTrust(trust));
        Edges.refusedEach(Edges::fresh, Edges.ARGUMENT, Edges.NOT_TRUSTS, (y, trust) -> y.setLeastTrust(trust));
        Edges.refusedEach(Edges::busy, Edges.ARGUMENT, Edges.NOT_TRUSTS, (y, trust) -> y.setLeastTrust(trust));
    }

    private static void let() {
        promise(11);
        sentence("Turns a source on or off.");
        RumourReasoner x = allSay(Edges.TRUE);
        int heard = 63;
        for (int source = 0; source < 6; source++) {
            x.let(source, false);
            heard -= 1 << source;
            due("heard() without " + source, x.heard(), heard);
        }
        due("gaps() with nobody heard", x.gaps(), 63);
        for (int source = 5; source >= 0; source--) {
            x.let(source, true);
            heard += 1 << source;
            due("heard() with " + source, x.heard(), heard);
        }
        due("gaps() with all heard", x.gaps(), 0);
        sentence("Returns whether it is heard then.");
        for (int source = 0; source < 6; source++) {
            RumourReasoner y = new RumourReasoner();
            due("on already", y.let(source, true), true);
            due("off", y.let(source, false), false);
            due("off already", y.let(source, false), false);
            y.setLeastTrust(51);
            due("on, but not trusted", y.let(source, true), false);
            y.setLeastTrust(50);
            due("on, and just trusted", y.let(source, true), true);
        }
        notSix("source", (y, source) -> y.let(source, true), (y, source) -> y.let(source, false));
    }

    private static void setRule() {
        promise(12);
        sentence("Gives a rule to an atom.");
        for (int p = 0; p < 6; p++) {
            RumourReasoner x = Edges.withFormulas(39);
            x.constant(Edges.BOTH);
            x.setRule(p, 39);
            due("conflicts() with the last formula as a rule of " + p, x.conflicts(), 1 << p);
            x.report(0, 0, Edges.TRUE);
            x.setRule(p, 0);
            due("settled(" + p + ") with the first one", x.settled(p), Edges.TRUE);
        }
        sentence("- formula: its rule; -1 for none");
        for (int p = 0; p < 6; p++) {
            RumourReasoner x = Edges.withAtoms();
            x.setRule(p, x.constant(Edges.BOTH));
            x.setRule(p, -1);
            due("gaps() with the rule taken away", x.gaps(), 63);
            due("rounds() with the rule taken away", x.rounds(), 0);
            due("the digest is that of an object that never had it", x.digest(), digestWithSevenFormulas());
        }
        sentence("Returns the rule before; -1 if there was none.");
        for (int p = 0; p < 6; p++) {
            RumourReasoner x = Edges.withFormulas(40);
            due("at first", x.setRule(p, 39), -1);
            due("the last formula", x.setRule(p, 0), 39);
            due("the first formula", x.setRule(p, 0), 0);
            due("the first formula again", x.setRule(p, -1), 0);
            due("none", x.setRule(p, -1), -1);
            due("none, of a new object", new RumourReasoner().setRule(p, -1), -1);
        }
        sentence("Throws IndexOutOfBoundsException if atom is not 0 to 5, or formula is not -1 and there is no such "
                + "formula");
        Edges.takenEach(Edges::busy, 0, 5, (x, p) -> x.setRule(p, 0));
        Edges.takenEach(Edges::fresh, 0, 5, (x, p) -> x.setRule(p, -1));
        for (int f : new int[] {-1, 0, -2, 14, Edges.OPEN_1, Edges.IF_4}) {
            Edges.refusedEach(Edges::busy, Edges.INDEX, Edges.NOT_SIX, (x, p) -> x.setRule(p, f));
        }
        for (int count : new int[] {0, 1, 39, 40}) {
            Edges.Maker maker = () -> Edges.withFormulas(count);
            Edges.takenEach(maker, -1, count - 1, (x, f) -> x.setRule(5, f));
            for (int f : Edges.notFormulas(count)) {
                if (f != -1) {
                    Edges.refused(maker, Edges.INDEX, "setRule(5, " + f + ")", x -> x.setRule(5, f));
                    Edges.refused(maker, Edges.INDEX, "setRule(-1, " + f + ")", x -> x.setRule(-1, f));
                }
            }
        }
        Edges.refused(Edges::busy, Edges.INDEX, "setRule(0, -2)", x -> x.setRule(0, -2));
        Edges.refused(Edges::busy, Edges.INDEX, "setRule(0, 14)", x -> x.setRule(0, 14));
        sentence("Throws IllegalArgumentException if the formula is not steady");
        for (int p = 0; p < 6; p++) {
            int atom = p;
            for (int f = 0; f < 40; f++) {
                int formula = f;
                boolean isSteady = f < 14 ? f != Edges.OPEN_1 && f != Edges.IF_4 : f % 5 != Edges.IF_4 % 5;
                if (isSteady) {
                    Edges.taken(Edges::full, "setRule(.., " + f + ")", x -> x.setRule(atom, formula));
                } else {
                    Edges.refused(Edges::full, Edges.ARGUMENT, "setRule(.., " + f + ")", x -> x.setRule(atom, formula));
                }
            }
        }
    }

    private static long digestWithSevenFormulas() {
        RumourReasoner x = Edges.withAtoms();
        x.constant(Edges.BOTH);
        return x.digest();
    }

    private static void given() {
        promise(13);
        sentence("Returns its given value.");
        for (int p = 0; p < 6; p++) {
            for (int v = 0; v < 4; v++) {
                RumourReasoner x = allSay(v);
                due("all say " + v, x.given(p), v);
                x.setRule(p, x.constant(Edges.BOTH));
                due("a rule adds nothing to it", x.given(p), v);
                letAll(x, false);
                due("nobody is heard", x.given(p), Edges.NONE);
                x.let(5, true);
                due("the last one is heard", x.given(p), v);
                x.setLeastTrust(51);
                due("nobody is trusted", x.given(p), Edges.NONE);
            }
        }
        notSix("atom", (x, p) -> x.given(p));
    }

    private static void settled() {
        promise(14);
        sentence("Returns its settled value.");
        for (int p = 0; p < 6; p++) {
            for (int v = 0; v < 4; v++) {
                RumourReasoner x = allSay(v);
                due("all say " + v, x.settled(p), v);
                x.setRule(p, (p + 1) % 6);
                due("a rule that tells the same", x.settled(p), v);
                x.setRule(p, x.constant(Edges.BOTH));
                due("a rule that tells BOTH", x.settled(p), Edges.BOTH);
                letAll(x, false);
                due("nobody is heard", x.settled(p), Edges.BOTH);
                x.setRule(p, -1);
                due("nobody is heard, and the rule is taken away", x.settled(p), Edges.NONE);
            }
            due("at the end of the longest ring", Edges.ring(5).settled(p), Edges.BOTH);
        }
        notSix("atom", (x, p) -> x.settled(p));
    }

    private static void rounds() {
        promise(15);
        sentence("Returns the number of the last round that counts.");
        due("of a new object", new RumourReasoner().rounds(), 0);
        due("of an object without rules", allSay(Edges.BOTH).rounds(), 0);
        due("of the longest ring", Edges.ring(5).rounds(), 12);
        RumourReasoner chain = Edges.withAtoms();
        chain.report(3, 0, Edges.FALSE);
        for (int p = 1; p < 6; p++) {
            chain.setRule(p, p - 1);
            due("of a chain to " + p, chain.rounds(), p);
        }
        chain.setRule(1, -1);
        due("of a chain that is cut at its head", chain.rounds(), 0);
        chain.setRule(1, 0);
        letAll(chain, false);
        due("of a chain with nobody heard", chain.rounds(), 0);
        letAll(chain, true);
        chain.setLeastTrust(51);
        due("of a chain with nobody trusted", chain.rounds(), 0);
        RumourReasoner itself = Edges.withAtoms();
        for (int p = 0; p < 6; p++) {
            itself.setRule(p, p);
            itself.report(0, p, p % 4);
        }
        due("of atoms that are rules of themselves", itself.rounds(), 0);
    }

    private static void since() {
        promise(16);
        sentence("Returns the first round in which the value of the atom is so; -1 if there is none.");
        for (int p = 0; p < 6; p++) {
            due("told true in the longest ring", Edges.ring(5).since(p, true), p + 1);
            due("told false in the longest ring", Edges.ring(5).since(p, false), p + 7);
            for (int v = 0; v < 4; v++) {
                RumourReasoner x = allSay(v);
                due("given " + v + ", true", x.since(p, true), v == 1 || v == 3 ? 0 : -1);
                due("given " + v + ", false", x.since(p, false), v >= 2 ? 0 : -1);
                x.setRule(p, x.constant(Edges.BOTH));
                due("given " + v + ", with a rule, true", x.since(p, true), v == 1 || v == 3 ? 0 : 1);
                due("given " + v + ", with a rule, false", x.since(p, false), v >= 2 ? 0 : 1);
                x.setRule(p, -1);
                letAll(x, false);
                due("nobody is heard, true", x.since(p, true), -1);
                due("nobody is heard, false", x.since(p, false), -1);
            }
        }
        notSix("atom", (x, p) -> x.since(p, true), (x, p) -> x.since(p, false));
    }

    private static void value() {
        promise(17);
        sentence("Returns its value for the settled values.");
        for (int v = 0; v < 4; v++) {
            RumourReasoner x = allSay(v);
            x.setRule(5, x.turn(2, 0));
            int open = x.turn(8, 0);
            int last = x.join(6, 0, 5);
            int both = v == 0 ? 0 : 3;
            due("an atom", x.value(0), v);
            due("an atom with a rule", x.value(5), both);
            due("an OPEN", x.value(open), new int[] {3, 1, 2, 0}[v]);
            due("a MERGE", x.value(last), both);
            x.setLogic(1 << (3 - v));
            due("an atom, not of the logic", x.value(0), v);
            letAll(x, false);
            due("an atom with nobody heard", x.value(0), Edges.NONE);
            due("an OPEN with nobody heard", x.value(open), Edges.BOTH);
        }
        RumourReasoner full = Edges.full();
        for (int f = 14; f < 40; f++) {
            due("a NOT, in an object that is full", full.value(f), new int[] {0, 2, 1, 3}[full.value(f - 5)]);
        }
        noSuchFormula((x, f) -> x.value(f));
    }

    private static void conflicts() {
        promise(18);
        sentence("Returns the set of the atoms whose settled value is BOTH.");
        for (int v = 0; v < 4; v++) {
            due("all are " + v, allSay(v).conflicts(), v == 3 ? 63 : 0);
        }
        for (int p = 0; p < 6; p++) {
            RumourReasoner x = allSay(Edges.TRUE);
            x.report(5, p, Edges.FALSE);
            due("of " + p, x.conflicts(), 1 << p);
            x.let(5, false);
            due("of none", x.conflicts(), 0);
            x.setRule(p, x.turn(2, p));
            due("by a rule", x.conflicts(), 1 << p);
        }
        due("of the longest ring", Edges.ring(5).conflicts(), 63);
    }

    private static void gaps() {
        promise(19);
        sentence("Returns the set of the atoms whose settled value is NONE.");
        for (int v = 0; v < 4; v++) {
            RumourReasoner x = allSay(v);
            due("all are " + v, x.gaps(), v == 0 ? 63 : 0);
            letAll(x, false);
            due("nobody is heard", x.gaps(), 63);
        }
        for (int p = 0; p < 6; p++) {
            RumourReasoner x = Edges.withAtoms();
            x.report(0, p, Edges.FALSE);
            due("all but " + p, x.gaps(), 63 - (1 << p));
            x.setRule((p + 1) % 6, p);
            due("all but two, by a rule", x.gaps(), 63 - (1 << p) - (1 << (p + 1) % 6));
        }
        due("of the longest ring", Edges.ring(5).gaps(), 0);
    }

    private static void discord() {
        promise(20);
        sentence("Returns the number of atoms whose settled value is BOTH divided by the number of those whose settled "
                + "value is not NONE; 0 if there are none of these.");
        for (int told = 0; told <= 6; told++) {
            for (int both = 0; both <= told; both++) {
                RumourReasoner x = new RumourReasoner();
                for (int p = 0; p < told; p++) {
                    x.report(p, 5 - p, p < both ? Edges.BOTH : 1 + p % 2);
                }
                double want = told == 0 ? 0.0 : (double) both / told;
                due(both + " of " + told, x.discord(), want);
                letAll(x, false);
                due("nobody is heard", x.discord(), 0.0);
            }
        }
        due("of the longest ring", Edges.ring(5).discord(), 1.0);
    }

    // ---- sources

    private static void heard() {
        promise(21);
        sentence("Returns the set of the sources that are heard.");
        for (int set = 0; set < 64; set++) {
            RumourReasoner byHand = new RumourReasoner();
            RumourReasoner byTrust = new RumourReasoner();
            for (int source = 0; source < 6; source++) {
                boolean isIn = (set >> source & 1) == 1;
                byHand.let(source, isIn);
                byTrust.setTrust(source, isIn ? 60 : 59);
            }
            byTrust.setLeastTrust(60);
            due("those that are on", byHand.heard(), set);
            due("those that are trusted", byTrust.heard(), set);
            byTrust.let(0, false);
            due("those that are trusted and on", byTrust.heard(), set & 62);
        }
    }

    private static void sayers() {
        promise(22);
        sentence("Returns the set of the sources that are heard and say such a value for it.");
        for (int p = 0; p < 6; p++) {
            for (int v = 0; v < 4; v++) {
                RumourReasoner x = allSay(v);
                due("all say " + v + ", true", x.sayers(p, true), v == 1 || v == 3 ? 63 : 0);
                due("all say " + v + ", false", x.sayers(p, false), v >= 2 ? 63 : 0);
                x.let(0, false);
                x.setTrust(5, 49);
                x.setLeastTrust(50);
                due("without the first and the last, true", x.sayers(p, true), v == 1 || v == 3 ? 30 : 0);
                due("without the first and the last, false", x.sayers(p, false), v >= 2 ? 30 : 0);
                letAll(x, false);
                x.setRule(p, x.constant(Edges.BOTH));
                due("nobody is heard, true", x.sayers(p, true), 0);
                due("nobody is heard, false", x.sayers(p, false), 0);
            }
        }
        notSix("atom", (x, p) -> x.sayers(p, true), (x, p) -> x.sayers(p, false));
    }

    private static void matters() {
        promise(23);
        sentence("Returns whether the source is heard, and the settled value of the atom would be another one if it "
                + "were off.");
        for (int source = 0; source < 6; source++) {
            for (int p = 0; p < 6; p++) {
                RumourReasoner x = Edges.withAtoms();
                int next = (p + 1) % 6;
                x.report(source, p, Edges.TRUE);
                x.setRule(next, p);
                due("the only one", x.matters(source, p), true);
                due("the only one, by a rule", x.matters(source, next), true);
                due("on what nobody speaks of", x.matters(source, (p + 2) % 6), false);
                due("another one", x.matters((source + 1) % 6, p), false);
                due("heard() after the question", x.heard(), 63);
                x.setLeastTrust(51);
                due("one that is not trusted", x.matters(source, p), false);
                x.setLeastTrust(50);
                x.let(source, false);
                due("one that is off", x.matters(source, p), false);
                x.let(source, true);
                x.report((source + 1) % 6, p, Edges.BOTH);
                due("one of two that say TRUE", x.matters(source, p), false);
                due("the only one that says FALSE", x.matters((source + 1) % 6, p), true);
            }
        }
        RumourReasoner all = allSay(Edges.BOTH);
        due("one of all", all.matters(5, 5), false);
        letAll(all, false);
        due("with nobody heard", all.matters(5, 5), false);
        notSix("source or atom", (x, source) -> x.matters(source, 0), (x, p) -> x.matters(0, p),
                (x, both) -> x.matters(both, both));
    }

    private static void silence() {
        promise(24);
        sentence("Returns this set (0 if nothing is to be done); -1 if there is no such set.");
        due("of a new object", new RumourReasoner().silence(), 0);
        for (int v = 0; v < 3; v++) {
            due("all say " + v, allSay(v).silence(), 0);
        }
        RumourReasoner all = allSay(Edges.BOTH);
        due("all say BOTH", all.silence(), 63);
        for (int source = 0; source < 6; source++) {
            all.setTrust(source, 100);
        }
        due("all say BOTH with the greatest trust", all.silence(), 63);
        for (int source = 0; source < 6; source++) {
            all.setTrust(source, 1);
        }
        due("all say BOTH with the least trust", all.silence(), 63);
        due("heard() after the question", all.heard(), 63);
        due("the longest ring", Edges.ring(5).silence(), -1);
        for (int p = 0; p < 6; p++) {
            RumourReasoner x = Edges.withAtoms();
            x.setRule(p, x.constant(Edges.BOTH));
            due("a rule that tells BOTH", x.silence(), -1);
            letAll(x, false);
            due("a rule that tells BOTH, with nobody heard", x.silence(), -1);
            x.setRule(p, -1);
            due("the rule taken away, with nobody heard", x.silence(), 0);
            letAll(x, true);
            due("the rule taken away, with all heard", x.silence(), 0);
            x.setRule(p, x.constant(Edges.TRUE));
            x.report(5, p, Edges.FALSE);
            due("one against a rule", x.silence(), 32);
        }
    }

    private static void silenceOfSeveral() {
        sentence("Tells which sources had best be silent: a set of sources that are heard, such that no settled value "
                + "would be BOTH if they were off; the one with the least sum of trusts; of several the one that is "
                + "told by the smallest number.");
        for (int low = 0; low < 6; low++) {
            for (int high = low + 1; high < 6; high++) {
                RumourReasoner x = new RumourReasoner();
                x.report(low, 5, Edges.TRUE);
                x.report(high, 5, Edges.FALSE);
                due("the same sum", x.silence(), 1 << low);
                x.setTrust(low, 51);
                due("a smaller sum", x.silence(), 1 << high);
                x.let(high, false);
                due("no conflict among those that are heard", x.silence(), 0);
                x.let(high, true);
                x.setLeastTrust(51);
                due("no conflict among those that are trusted", x.silence(), 0);
                x.report(low, 0, Edges.BOTH);
                due("one that contradicts itself", x.silence(), 1 << low);
            }
        }
        // Sources 0 and 1 against 2; the two together are told by 3, the one by 4.
        for (int trust = 1; trust <= 3; trust++) {
            RumourReasoner x = new RumourReasoner();
            x.setTrust(0, 1);
            x.setTrust(1, 1);
            x.setTrust(2, trust);
            x.report(0, 3, Edges.TRUE);
            x.report(1, 3, Edges.TRUE);
            x.report(2, 3, Edges.FALSE);
            due("two of 1 against one of " + trust, x.silence(), trust < 2 ? 4 : 3);
        }
        // The sum counts, not the number of sources: five of trust 1 against one of trust 5 or 6.
        for (int trust = 4; trust <= 6; trust++) {
            RumourReasoner x = new RumourReasoner();
            for (int source = 0; source < 6; source++) {
                x.setTrust(source, source == 0 ? trust : 1);
                x.report(source, 0, source == 0 ? Edges.TRUE : Edges.FALSE);
            }
            due("five of 1 against one of " + trust, x.silence(), trust <= 5 ? 1 : 62);
        }
    }

    private static void contradicted() {
        promise(25);
        sentence("Returns for how many atoms it says a value that is told true while the settled value is told false, "
                + "or the other way round.");
        for (int mine = 0; mine < 4; mine++) {
            for (int other = 0; other < 4; other++) {
                for (int count = 0; count <= 6; count++) {
                    RumourReasoner x = new RumourReasoner();
                    for (int p = 0; p < count; p++) {
                        x.report(0, p, mine);
                        x.report(5, p, other);
                    }
                    boolean isHit = mine != 0 && (mine | other) == 3;
                    due(mine + " beside " + other + " for " + count, x.contradicted(0), isHit ? count : 0);
                    x.let(0, false);
                    boolean isHitOff = (mine & 1) == 1 && other >= 2 || mine >= 2 && (other & 1) == 1;
                    due(mine + ", off, beside " + other, x.contradicted(0), isHitOff ? count : 0);
                    x.let(5, false);
                    due("nobody is heard", x.contradicted(0), 0);
                }
            }
        }
        for (int source = 0; source < 6; source++) {
            RumourReasoner x = Edges.withAtoms();
            x.report(source, 5, Edges.TRUE);
            x.setRule(5, x.constant(Edges.FALSE));
            due("by a rule", x.contradicted(source), 1);
            x.setRule(5, -1);
            due("by a rule that is taken away", x.contradicted(source), 0);
        }
        notSix("source", (x, source) -> x.contradicted(source));
    }

    // ---- logics

    private static void setLogic() {
        promise(26);
        sentence("Sets the logic.");
        for (int logic = 1; logic <= 15; logic++) {
            RumourReasoner x = Edges.withAtoms();
            x.setLogic(logic);
            due("the values of the first atom", x.range(0), logic);
            due("the values of the last atom", x.range(5), logic);
            x.setLogic(15);
            due("the values in the logic of all four again", x.range(3), 15);
        }
        sentence("Returns those before.");
        for (int logic = 1; logic <= 15; logic++) {
            RumourReasoner x = new RumourReasoner();
            due("at first", x.setLogic(logic), 15);
            due("then", x.setLogic(16 - logic), logic);
            due("at last", x.setLogic(1), 16 - logic);
        }
        sentence("Throws IllegalArgumentException if values is not 1 to 15");
        Edges.takenEach(Edges::fresh, 1, 15, (x, values) -> x.setLogic(values));
        Edges.refusedEach(Edges::fresh, Edges.ARGUMENT, NOT_LOGICS, (x, values) -> x.setLogic(values));
        Edges.refusedEach(Edges::busy, Edges.ARGUMENT, NOT_LOGICS, (x, values) -> x.setLogic(values));
        Edges.refusedEach(Edges::full, Edges.ARGUMENT, NOT_LOGICS, (x, values) -> x.setLogic(values));
    }

    private static int power(int base, int exponent) {
        return exponent == 0 ? 1 : base * power(base, exponent - 1);
    }

    private static void models() {
        promise(27);
        sentence("Returns for how many valuations it is told true.");
        for (int logic = 1; logic <= 15; logic++) {
            RumourReasoner x = Edges.withAtoms();
            x.setLogic(logic);
            int size = Integer.bitCount(logic);
            int toldTrue = Integer.bitCount(logic & 10);
            for (int v = 0; v < 4; v++) {
                due("of the VALUE " + v, x.models(x.constant(v)), v % 2 == 1 ? power(size, 6) : 0);
            }
            int all = 0;
            for (int p = 0; p < 6; p++) {
                due("of the atom " + p, x.models(p), toldTrue * power(size, 5));
                all = p == 0 ? 0 : x.join(3, all, p);
            }
            due("of all atoms at once", x.models(all), power(toldTrue, 6));
        }
        for (int v = 0; v < 4; v += 3) {
            RumourReasoner x = Edges.withAtoms();
            int one = just(x, v);
            due("of one that is told true where all are " + v, x.models(one), 1);
            x.setLogic(1 << v);
            due("in the logic of " + v + " alone", x.models(one), 1);
            x.setLogic(15 - (1 << v));
            due("in the logic without " + v, x.models(one), 0);
        }
        noSuchFormula((x, f) -> x.models(f));
    }

    private static void range() {
        promise(28);
        sentence("Returns the set of the values that it has for some valuation, told like a logic.");
        for (int logic = 1; logic <= 15; logic++) {
            RumourReasoner x = Edges.withAtoms();
            x.setLogic(logic);
            for (int p = 0; p < 6; p++) {
                due("of the atom " + p, x.range(p), logic);
            }
            int swapped = (logic & 9) | (logic & 2) << 1 | (logic & 4) >> 1;
            due("of NOT the first atom", x.range(x.turn(2, 0)), swapped);
            due("of NOT the last atom", x.range(x.turn(2, 5)), swapped);
            int opened = (logic & 6) | (logic & 1) << 3 | (logic & 8) >> 3;
            due("of OPEN the first atom", x.range(x.turn(8, 0)), opened);
            due("of OPEN the last atom", x.range(x.turn(8, 5)), opened);
        }
        for (int v = 0; v < 4; v += 3) {
            for (int w = 0; w < 4; w++) {
                RumourReasoner x = Edges.withAtoms();
                int odd = x.join(7, just(x, v), x.constant(w));
                due("of one that is " + w + " where all are " + v + ", else TRUE", x.range(odd), 2 | 1 << w);
                x.setLogic(15 - (1 << v));
                due("of the same without " + v, x.range(odd), 2);
                x.setLogic(1 << v);
                due("of the same with " + v + " alone", x.range(odd), 1 << w);
            }
        }
        noSuchFormula((x, f) -> x.range(f));
    }

    private static void entails() {
        promise(29);
        sentence("Returns whether b is told true for each valuation for which a is told true.");
        for (int logic = 1; logic <= 15; logic++) {
            RumourReasoner x = Edges.withAtoms();
            int yes = x.constant(Edges.TRUE);
            int both = x.constant(Edges.BOTH);
            int none = x.constant(Edges.NONE);
            int clash = x.join(3, 5, x.turn(2, 5));
            x.setLogic(logic);
            boolean canBeTrue = (logic & 10) != 0;
            boolean mustBeTrue = (logic & 5) == 0;
            due("a formula from itself", x.entails(0, 0), true);
            due("TRUE from BOTH", x.entails(both, yes), true);
            due("BOTH from TRUE", x.entails(yes, both), true);
            due("NONE from TRUE", x.entails(yes, none), false);
            due("all from NONE", x.entails(none, 5), true);
            due("an atom from TRUE", x.entails(yes, 0), mustBeTrue);
            due("NONE from an atom", x.entails(0, none), !canBeTrue);
            due("an atom from another one", x.entails(0, 5), !canBeTrue || mustBeTrue);
            due("NONE from p AND NOT p", x.entails(clash, none), (logic & 8) == 0);
        }
        for (int v = 0; v < 4; v += 3) {
            RumourReasoner x = Edges.withAtoms();
            int one = just(x, v);
            int none = x.constant(Edges.NONE);
            due("NONE from what is told true where all are " + v, x.entails(one, none), false);
            x.setLogic(15 - (1 << v));
            due("the same without " + v, x.entails(one, none), true);
        }
        noSuchFormula((x, f) -> x.entails(f, 0), (x, f) -> x.entails(0, f), (x, f) -> x.entails(f, f));
    }

    private static void against() {
        promise(30);
        sentence("Returns the smallest valuation for which a is told true, and b is not; -1 if there is none.");
        for (int logic = 1; logic <= 15; logic++) {
            RumourReasoner x = Edges.withAtoms();
            int yes = x.constant(Edges.TRUE);
            int none = x.constant(Edges.NONE);
            x.setLogic(logic);
            int least = Integer.numberOfTrailingZeros(logic);
            int leastTrue = Integer.numberOfTrailingZeros(logic & 10);
            int leastUntrue = Integer.numberOfTrailingZeros(logic & 5);
            due("NONE against TRUE", x.against(yes, none), Edges.allOf(least));
            due("a formula against itself", x.against(5, 5), -1);
            due("TRUE against NONE", x.against(none, yes), -1);
            for (int p = 0; p < 6; p++) {
                int without = Edges.allOf(least) - least * Edges.placeOf(p);
                due("the atom " + p + ", and not NONE", x.against(p, none),
                        leastTrue == 32 ? -1 : without + leastTrue * Edges.placeOf(p));
                due("TRUE, and not the atom " + p, x.against(yes, p),
                        leastUntrue == 32 ? -1 : without + leastUntrue * Edges.placeOf(p));
            }
        }
        for (int v = 0; v < 4; v += 3) {
            RumourReasoner x = Edges.withAtoms();
            int one = just(x, v);
            int none = x.constant(Edges.NONE);
            due("the only one, where all are " + v, x.against(one, none), v == 0 ? 0 : 4095);
            x.setLogic(15 - (1 << v));
            due("the same without " + v, x.against(one, none), -1);
        }
        noSuchFormula((x, f) -> x.against(f, 0), (x, f) -> x.against(0, f), (x, f) -> x.against(f, f));
    }

    private static void areEqual() {
        promise(31);
        sentence("Returns whether they have the same value for each valuation.");
        for (int logic = 1; logic <= 15; logic++) {
            RumourReasoner x = Edges.withAtoms();
            for (int v = 0; v < 4; v++) {
                x.constant(v);
            }
            int twice = x.turn(2, x.turn(2, 5));
            int turned = x.turn(2, 0);
            int opened = x.turn(8, 0);
            x.setLogic(logic);
            boolean isNarrow = Integer.bitCount(logic) == 1;
            due("a formula and itself", x.areEqual(0, 0), true);
            due("NOT NOT p and p", x.areEqual(twice, 5), true);
            due("two atoms", x.areEqual(0, 5), isNarrow);
            due("p and NOT p", x.areEqual(0, turned), (logic & 6) == 0);
            due("p and OPEN p", x.areEqual(opened, 0), (logic & 9) == 0);
            for (int v = 0; v < 4; v++) {
                due("p and the VALUE " + v, x.areEqual(3, 6 + v), logic == 1 << v);
                for (int w = 0; w < 4; w++) {
                    due("the VALUES " + v + " and " + w, x.areEqual(6 + v, 6 + w), v == w);
                }
            }
        }
        for (int v = 0; v < 4; v += 3) {
            for (int w = 0; w < 4; w++) {
                RumourReasoner x = Edges.withAtoms();
                int odd = x.join(7, just(x, v), x.constant(w));
                int yes = x.constant(Edges.TRUE);
                due("two that differ where all are " + v, x.areEqual(odd, yes), w == 1);
                x.setLogic(15 - (1 << v));
                due("the same without " + v, x.areEqual(odd, yes), true);
                x.setLogic(1 << v);
                due("the same with " + v + " alone", x.areEqual(yes, odd), w == 1);
            }
        }
        noSuchFormula((x, f) -> x.areEqual(f, 0), (x, f) -> x.areEqual(0, f), (x, f) -> x.areEqual(f, f));
    }

    private static void depends() {
        promise(32);
        sentence("Returns whether there are two valuations that differ in this atom alone, for which the formula has "
                + "different values.");
        for (int logic = 1; logic <= 15; logic++) {
            boolean isWide = Integer.bitCount(logic) > 1;
            for (int p = 0; p < 6; p++) {
                RumourReasoner x = Edges.withAtoms();
                int yes = x.constant(Edges.TRUE);
                // p OR NOT p is NONE, TRUE, TRUE, BOTH; p AGREE OPEN p is NONE, TRUE, FALSE, NONE.
                int either = x.join(4, p, x.turn(2, p));
                int sure = x.join(5, p, x.turn(8, p));
                int twice = x.join(6, p, (p + 1) % 6);
                x.setLogic(logic);
                due("an atom on itself in " + logic, x.depends(p, p), isWide);
                due("an atom on another one in " + logic, x.depends(p, 5 - p), false);
                due("TRUE on " + p + " in " + logic, x.depends(yes, p), false);
                due("p OR NOT p in " + logic, x.depends(either, p), isWide && logic != 6);
                due("p AGREE OPEN p in " + logic, x.depends(sure, p), isWide && logic != 9);
                due("p MERGE q on q in " + logic, x.depends(twice, (p + 1) % 6), isWide);
            }
        }
        for (int v = 0; v < 4; v += 3) {
            for (int w = 0; w < 4; w++) {
                RumourReasoner x = Edges.withAtoms();
                int odd = x.join(7, just(x, v), x.constant(w));
                for (int p = 0; p < 6; p++) {
                    x.setLogic(15);
                    due("on " + p + " if all others are " + v, x.depends(odd, p), w != 1);
                    x.setLogic(9);
                    due("the same, with NONE and BOTH", x.depends(odd, p), w != 1);
                    x.setLogic(15 - (1 << v));
                    due("the same without " + v, x.depends(odd, p), false);
                    x.setLogic(1 << v);
                    due("the same with " + v + " alone", x.depends(odd, p), false);
                }
            }
        }
        sentence("Throws IndexOutOfBoundsException if there is no such formula, or atom is not 0 to 5");
        for (int p = 0; p < 6; p += 5) {
            int atom = p;
            Edges.formulasOnly((x, f) -> x.depends(f, atom));
        }
        for (int f : new int[] {0, 13}) {
            Edges.takenEach(Edges::busy, 0, 5, (x, p) -> x.depends(f, p));
            Edges.refusedEach(Edges::busy, Edges.INDEX, Edges.NOT_SIX, (x, p) -> x.depends(f, p));
        }
        Edges.refusedEach(Edges::busy, Edges.INDEX, Edges.NOT_SIX, (x, p) -> x.depends(14, p));
        Edges.refusedEach(() -> {
            RumourReasoner x = Edges.busy();
            x.setLogic(2);
            return x;
        }, Edges.INDEX, Edges.NOT_SIX, (x, p) -> x.depends(0, p));
    }

    private static void valueAt() {
        promise(33);
        sentence("Returns its value for this valuation (whose values need not be of the logic).");
        for (int logic = 1; logic <= 15; logic++) {
            RumourReasoner x = Edges.withAtoms();
            x.setLogic(logic);
            for (int v = 0; v < 4; v++) {
                for (int p = 0; p < 6; p++) {
                    due("the atom " + p + ", all being " + v, x.valueAt(p, Edges.allOf(v)), v);
                }
            }
        }
        for (int part = 0; part < 4096; part += 64) {
            RumourReasoner x = Edges.withAtoms();
            for (int n = part; n < part + 64; n++) {
                int back = 0;
                for (int p = 0; p < 6; p++) {
                    back = 4 * back + x.valueAt(p, n);
                }
                due("the values of all atoms in " + n, back, n);
            }
        }
        noSuchFormula((x, f) -> x.valueAt(f, 0), (x, f) -> x.valueAt(f, 4095));
        Edges.refusedEach(Edges::busy, Edges.INDEX, NOT_VALUATIONS, (x, n) -> x.valueAt(14, n));
        sentence("Throws IllegalArgumentException if valuation is not 0 to 4095");
        for (int f : new int[] {0, 13}) {
            Edges.takenEach(Edges::busy, 0, 1, (x, n) -> x.valueAt(f, n));
            Edges.takenEach(Edges::busy, 4094, 4095, (x, n) -> x.valueAt(f, n));
            Edges.refusedEach(Edges::busy, Edges.ARGUMENT, NOT_VALUATIONS, (x, n) -> x.valueAt(f, n));
        }
        Edges.refusedEach(Edges::full, Edges.ARGUMENT, NOT_VALUATIONS, (x, n) -> x.valueAt(39, n));
    }

    // ---- the checksum

    private static void digest() {
        promise(34);
        sentence("Computes a checksum. A number d starts with 131; for each of the following numbers x, d becomes "
                + "d * 31 + x, which wraps around as a 64-bit integer: the number of formulas, and the kind of each; "
                + "the least trust; for each source its trust, 1 if it is on, else 0, and the values that it says for "
                + "the atoms 0 to 5; for each atom its rule (-1 for none), its given value and its settled value; the "
                + "number of the last round that counts; the logic.");
        places();
        RumourReasoner x = Edges.ring(5);
        Numbers ring = new Numbers(0, 0, 0, 0, 0, 0, 1, 2, 6);
        for (int p = 0; p < 6; p++) {
            ring.rule[p] = p == 0 ? 8 : p - 1;
            ring.settled[p] = Edges.BOTH;
        }
        ring.rounds = 12;
        due("of the longest ring", x.digest(), ring.sum());
        int[] atoms = new int[40];
        for (int f = 0; f < 40; f++) {
            atoms[f] = f % 2;
        }
        RumourReasoner full = new RumourReasoner();
        for (int f = 0; f < 40; f++) {
            due("with " + f + " formulas", full.digest(), new Numbers(java.util.Arrays.copyOf(atoms, f)).sum());
            due("the number of the next one", f % 2 == 0 ? full.atom(5) : full.constant(3), f);
        }
        due("with 40 formulas", full.digest(), new Numbers(atoms).sum());
        kinds();
        sentence("Returns d.");
        due("of a new object", new RumourReasoner().digest(), new Numbers().sum());
        due("asked twice", x.digest(), x.digest());
        boolean isBelowZero = false;
        boolean isAboveZero = false;
        for (int logic = 1; logic <= 15; logic++) {
            for (int trust = 1; trust <= 10; trust++) {
                RumourReasoner y = new RumourReasoner();
                Numbers numbers = new Numbers();
                y.setLogic(logic);
                y.setTrust(0, 10 * trust);
                numbers.logic = logic;
                numbers.trust[0] = 10 * trust;
                due("wrapped around", y.digest(), numbers.sum());
                isBelowZero |= y.digest() < 0;
                isAboveZero |= y.digest() > 0;
            }
        }
        due("some sums end below 0, some above", isBelowZero && isAboveZero, true);
    }

    /** Each number at its place: one after the other is another one than in a new object. */
    private static void places() {
        for (int k = 0; k < 6; k++) {
            RumourReasoner x = new RumourReasoner();
            Numbers numbers = new Numbers();
            x.setLeastTrust(numbers.least = 2 + k);
            due("the least trust", x.digest(), numbers.sum());
            x.setTrust(k, numbers.trust[k] = 60 + k);
            due("the trust of " + k, x.digest(), numbers.sum());
            x.report(k, 5 - k, numbers.says[k][5 - k] = Edges.FALSE);
            numbers.given[5 - k] = Edges.FALSE;
            numbers.settled[5 - k] = Edges.FALSE;
            due("what " + k + " says", x.digest(), numbers.sum());
            x.let(k, false);
            numbers.on[k] = 0;
            numbers.given[5 - k] = Edges.NONE;
            numbers.settled[5 - k] = Edges.NONE;
            due("that " + k + " is off", x.digest(), numbers.sum());
            x.constant(Edges.TRUE);
            x.setRule(k, 0);
            numbers.kinds = new int[] {1};
            numbers.rule[k] = 0;
            numbers.settled[k] = Edges.TRUE;
            numbers.rounds = 1;
            due("the rule of " + k, x.digest(), numbers.sum());
            x.setRule(k, -1);
            numbers.rule[k] = -1;
            numbers.settled[k] = Edges.NONE;
            numbers.rounds = 0;
            due("the rule of " + k + " taken away", x.digest(), numbers.sum());
            x.setLogic(numbers.logic = 1 + k);
            due("the logic", x.digest(), numbers.sum());
        }
    }

    private static void kinds() {
        RumourReasoner x = new RumourReasoner();
        x.atom(0);
        x.constant(0);
        x.turn(2, 0);
        for (int kind = 3; kind <= 7; kind++) {
            x.join(kind, 0, 0);
        }
        x.turn(8, 0);
        due("a formula of each kind", x.digest(), new Numbers(0, 1, 2, 3, 4, 5, 6, 7, 8).sum());
    }

    /** The numbers of the checksum, at first those of a new object; summed up without a bound, then cut to 64 bits. */
    private static final class Numbers {
        int[] kinds;
        int least = 1;
        final int[] trust = {50, 50, 50, 50, 50, 50};
        final int[] on = {1, 1, 1, 1, 1, 1};
        final int[][] says = new int[6][6];
        final int[] rule = {-1, -1, -1, -1, -1, -1};
        final int[] given = new int[6];
        final int[] settled = new int[6];
        int rounds = 0;
        int logic = 15;

        Numbers(int... kinds) {
            this.kinds = kinds;
        }

        long sum() {
            List<Integer> all = new ArrayList<>();
            all.add(kinds.length);
            addAll(all, kinds);
            all.add(least);
            for (int source = 0; source < 6; source++) {
                addAll(all, trust[source], on[source]);
                addAll(all, says[source]);
            }
            for (int p = 0; p < 6; p++) {
                addAll(all, rule[p], given[p], settled[p]);
            }
            addAll(all, rounds, logic);
            BigInteger d = BigInteger.valueOf(131);
            for (int number : all) {
                d = d.multiply(BigInteger.valueOf(31)).add(BigInteger.valueOf(number));
            }
            return d.longValue();
        }

        private static void addAll(List<Integer> all, int... numbers) {
            for (int number : numbers) {
                all.add(number);
            }
        }
    }
}
