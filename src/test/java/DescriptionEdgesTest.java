import java.lang.reflect.Modifier;

/** Each sentence of the document's "Description", at its boundaries. */
public final class DescriptionEdgesTest {
    private static final String HERE = "Description";
    private static final int[] VALUES = {Edges.NONE, Edges.TRUE, Edges.FALSE, Edges.BOTH};

    public static void main(String[] args) throws Exception {
        calls();
        values();
        formulas();
        kindsOfOnePart();
        kindsOfTwoParts();
        steadiness();
        sources();
        hearing();
        givenValues();
        rules();
        rounds();
        logics();
        valuations();
        sets();
        refusedCallsChangeNothing();
        firstNamedFirst();
        face();
        Edges.end("DescriptionEdgesTest", args, HERE);
    }

    private static void calls() {
        Edges.sentence("What it is", "An object is used for at most 512 calls after it has been made;");
        RumourReasoner x = new RumourReasoner();
        for (int call = 1; call <= 510; call++) {
            x.report(call % 6, call / 6 % 6, call % 4);
        }
        // The 503rd call was the last one of the source 5 on the atom 5.
        Edges.due("the 511th call", x.report(5, 5, Edges.TRUE), 503 % 4);
        Edges.due("the 512th call", x.report(5, 5, Edges.FALSE), Edges.TRUE);
    }

    private static void values() {
        Edges.sentence(HERE, "Values. There are four values: 0 NONE, 1 TRUE, 2 FALSE, 3 BOTH.");
        Edges.takenEach(Edges::fresh, 0, 3, (x, v) -> x.constant(v));
        Edges.takenEach(Edges::fresh, 0, 3, (x, v) -> x.report(5, 5, v));
        Edges.refusedEach(Edges::busy, Edges.ARGUMENT, Edges.NOT_VALUES, (x, v) -> x.constant(v));
        Edges.refusedEach(Edges::busy, Edges.ARGUMENT, Edges.NOT_VALUES, (x, v) -> x.report(5, 5, v));

        Edges.sentence(HERE, "A value is told true if it is TRUE or BOTH, and told false if it is FALSE or BOTH; "
                + "so each of these two says nothing about the other one.");
        boolean[] toldTrue = {false, true, false, true};
        boolean[] toldFalse = {false, false, true, true};
        for (int v : VALUES) {
            RumourReasoner x = new RumourReasoner();
            x.report(0, 0, v);
            Edges.due("sayers of " + v + ", true", x.sayers(0, true), toldTrue[v] ? 1 : 0);
            Edges.due("sayers of " + v + ", false", x.sayers(0, false), toldFalse[v] ? 1 : 0);
            Edges.due("since of " + v + ", true", x.since(0, true), toldTrue[v] ? 0 : -1);
            Edges.due("since of " + v + ", false", x.since(0, false), toldFalse[v] ? 0 : -1);
            Edges.due("models of " + v, x.models(x.constant(v)), toldTrue[v] ? 4096 : 0);
            Edges.due("models of NOT " + v, x.models(x.turn(2, 0)), toldFalse[v] ? 4096 : 0);
        }
    }

    private static void formulas() {
        Edges.sentence(HERE, "Formulas. There are 6 atoms, 0 to 5, and at most 40 formulas, numbered from 0 in the "
                + "order of their creation.");
        Edges.takenEach(Edges::fresh, 0, 5, (x, p) -> x.atom(p));
        Edges.refusedEach(Edges::fresh, Edges.INDEX, Edges.NOT_SIX, (x, p) -> x.atom(p));
        RumourReasoner x = new RumourReasoner();
        for (int f = 0; f < 40; f++) {
            Edges.due("the number of formula " + f, create(x, f), f);
        }
        for (int f = 36; f < 40; f++) {
            int again = f;
            Edges.due("the 41st formula", Edges.answer(x, y -> create(y, again)), Edges.STATE.getName());
        }
        Edges.due("formulaCount()", x.formulaCount(), 40);
        Edges.due("the kinds of the 40, by the digest", x.digest(), digestOfForty());

        Edges.sentence(HERE, "If each atom has a value, a formula has a value:");
        RumourReasoner full = Edges.full();
        for (int v : VALUES) {
            for (int f = 0; f < 40; f++) {
                int value = full.valueAt(f, Edges.allOf(v));
                Edges.due("whether formula " + f + " has one of the four", 0 <= value && value <= 3, true);
            }
        }
    }


    /** An atom, a constant, a NOT, an AND, and so on. */
    private static int create(RumourReasoner x, int f) {
        switch (f % 4) {
            case 0: return x.atom(f % 6);
            case 1: return x.constant(f % 3);
            case 2: return x.turn(2, f - 1);
            default: return x.join(3, f - 1, f - 2);
        }
    }

    private static long digestOfForty() {
        long d = 131L * 31 + 40;
        for (int f = 0; f < 40; f++) {
            d = d * 31 + f % 4;
        }
        d = d * 31 + 1;
        for (int source = 0; source < 6; source++) {
            d = (d * 31 + 50) * 31 + 1;
            for (int p = 0; p < 6; p++) {
                d *= 31;
            }
        }
        for (int p = 0; p < 6; p++) {
            d = (d * 31 - 1) * 31 * 31;
        }
        return d * 31 * 31 + 15;
    }

    private static void kindsOfOnePart() {
        Edges.sentence(HERE, "0 ATOM p: that of the atom p.");
        RumourReasoner atoms = Edges.withAtoms();
        for (int p = 0; p < 6; p++) {
            for (int v : VALUES) {
                for (int others : new int[] {0, 4095}) {
                    int place = Edges.placeOf(p);
                    int n = (others & ~(3 * place)) + v * place;
                    Edges.due("atom " + p + " at " + n, atoms.valueAt(p, n), v);
                }
            }
        }
        Edges.sentence(HERE, "1 VALUE v: v.");
        RumourReasoner constants = new RumourReasoner();
        for (int v : VALUES) {
            constants.constant(v);
            for (int n : new int[] {0, 63, 64, 1365, 2730, 4032, 4095}) {
                Edges.due("the VALUE " + v + " at " + n, constants.valueAt(v, n), v);
            }
        }
        Edges.sentence(HERE, "2 NOT a: told true if a is told false, and told false if a is told true.");
        oneRow(2, "0213");
        Edges.sentence(HERE, "8 OPEN a: told true if a is not told false, told false if a is not told true.");
        oneRow(8, "3120");
    }

    /** The values for a = NONE, TRUE, FALSE, BOTH, with the first atom, the last one and a constant as a. */
    private static void oneRow(int kind, String row) {
        RumourReasoner x = Edges.withAtoms();
        int first = x.turn(kind, 0);
        int last = x.turn(kind, 5);
        for (int v : VALUES) {
            int want = row.charAt(v) - '0';
            Edges.due("of the atom 0 that is " + v, x.valueAt(first, 1024 * v + 1023 * (v & 1)), want);
            Edges.due("of the atom 5 that is " + v, x.valueAt(last, 4092 * (v & 1) + v), want);
            Edges.due("of the VALUE " + v, x.range(x.turn(kind, x.constant(v))), 1 << want);
        }
    }

    private static void kindsOfTwoParts() {
        Edges.sentence(HERE, "3 AND a b: told true if both are told true, told false if one is told false (or both "
                + "are).");
        table(3, "0022", "0123", "2222", "2323");
        Edges.sentence(HERE, "4 OR a b: told true if one is told true, told false if both are told false.");
        table(4, "0101", "1111", "0123", "1133");
        Edges.sentence(HERE, "5 AGREE a b: told true if both are told true, told false if both are told false.");
        table(5, "0000", "0101", "0022", "0123");
        Edges.sentence(HERE, "6 MERGE a b: told true if one is told true, told false if one is told false.");
        table(6, "0123", "1133", "2323", "3333");
        Edges.sentence(HERE, "7 IF a b: the value of b if a is told true, otherwise TRUE.");
        table(7, "1111", "0123", "1111", "0123");
    }

    /** A row for a = NONE, TRUE, FALSE, BOTH; in a row, b = NONE, TRUE, FALSE, BOTH. */
    private static void table(int kind, String... rows) {
        RumourReasoner x = Edges.withAtoms();
        int high = x.join(kind, 0, 1);
        int across = x.join(kind, 5, 0);
        int itself = x.join(kind, 3, 3);
        for (int a : VALUES) {
            for (int b : VALUES) {
                int want = rows[a].charAt(b) - '0';
                Edges.due("of the atoms 0 and 1: " + a + ", " + b, x.valueAt(high, 1024 * a + 256 * b), want);
                Edges.due("of the atoms 5 and 0: " + a + ", " + b, x.valueAt(across, 1024 * b + 1020 + a), want);
            }
            Edges.due("of " + a + " and itself", x.valueAt(itself, Edges.allOf(a)), rows[a].charAt(a) - '0');
        }
    }

    private static void steadiness() {
        Edges.sentence(HERE, "A formula is steady if neither it, nor one of its parts, nor one of theirs, and so on, "
                + "is an IF or an OPEN.");
        for (int kind = 0; kind <= 8; kind++) {
            RumourReasoner x = Edges.withAtoms();
            Edges.due("one of kind " + kind, x.isSteady(ofKind(x, kind, 0, 1)), kind < 7);
        }
        for (int inner = 7; inner <= 8; inner++) {
            for (int outer = 2; outer <= 8; outer++) {
                RumourReasoner x = Edges.withAtoms();
                int odd = ofKind(x, inner, 2, 3);
                Edges.due("kind " + outer + " of kind " + inner, x.isSteady(ofKind(x, outer, odd, 0)), false);
                if (outer != 2 && outer != 8) {
                    int last = ofKind(x, outer, 0, odd);
                    Edges.due("kind " + outer + ", last part of kind " + inner, x.isSteady(last), false);
                }
            }
        }
        chains();
        RumourReasoner x = Edges.withAtoms();
        int twice = x.turn(8, x.turn(8, 0));
        Edges.due("OPEN OPEN p equals p", x.areEqual(twice, 0), true);
        Edges.due("but is not steady", x.isSteady(twice), false);
        Edges.due("one made beside it", x.isSteady(x.join(6, 0, 5)), true);
    }

    private static int ofKind(RumourReasoner x, int kind, int a, int b) {
        return kind == 0 ? x.atom(a) : kind == 1 ? x.constant(a) : kind == 2 || kind == 8 ? x.turn(kind, a)
                : x.join(kind, a, b);
    }

    /** The longest chains of parts that 40 formulas can be. */
    private static void chains() {
        RumourReasoner steady = new RumourReasoner();
        RumourReasoner open = new RumourReasoner();
        RumourReasoner cond = new RumourReasoner();
        steady.atom(0);
        open.atom(0);
        cond.atom(0);
        open.turn(8, 0);
        cond.join(7, 0, 0);
        for (int f = 1; f < 39; f++) {
            steady.turn(2, f - 1);
            open.turn(2, f);
            cond.join(3, 0, f);
        }
        steady.turn(2, 38);
        Edges.due("39 NOTs, one on the other", steady.isSteady(39), true);
        Edges.due("38 NOTs, one on the other, on an OPEN", open.isSteady(39), false);
        Edges.due("38 ANDs, one on the other, on an IF", cond.isSteady(39), false);
    }

    private static void sources() {
        Edges.sentence(HERE, "Reports. There are 6 sources, 0 to 5; each has a trust from 1 to 100 (50 at first), is "
                + "on or off (on, at first), and says a value for each atom (NONE at first).");
        Edges.takenEach(Edges::fresh, 0, 5, (x, s) -> x.let(s, false));
        Edges.refusedEach(Edges::busy, Edges.INDEX, Edges.NOT_SIX, (x, s) -> x.let(s, true));
        Edges.takenEach(Edges::fresh, 1, 100, (x, t) -> x.setTrust(0, t));
        Edges.refusedEach(Edges::busy, Edges.ARGUMENT, Edges.NOT_TRUSTS, (x, t) -> x.setTrust(0, t));
        Edges.due("all are on at first", new RumourReasoner().heard(), 63);
        for (int source = 0; source < 6; source++) {
            Edges.due("the trust of " + source + " at first", new RumourReasoner().setTrust(source, 1), 50);
            for (int p = 0; p < 6; p++) {
                Edges.due(source + " on " + p + " at first", new RumourReasoner().report(source, p, 3), 0);
            }
        }
    }

    private static void hearing() {
        Edges.sentence(HERE, "A source is heard if it is on and its trust is not less than the least trust, which is "
                + "1 to 100 (1 at first).");
        Edges.takenEach(Edges::fresh, 1, 100, (x, t) -> x.setLeastTrust(t));
        Edges.refusedEach(Edges::busy, Edges.ARGUMENT, Edges.NOT_TRUSTS, (x, t) -> x.setLeastTrust(t));
        Edges.due("the least trust at first", new RumourReasoner().setLeastTrust(2), 1);
        for (int least : new int[] {1, 2, 50, 51, 99, 100}) {
            for (int trust = Math.max(1, least - 1); trust <= Math.min(100, least + 1); trust++) {
                RumourReasoner x = new RumourReasoner();
                for (int source = 0; source < 6; source++) {
                    x.setTrust(source, trust);
                }
                x.setLeastTrust(least);
                String what = "trust " + trust + " beside the least trust " + least;
                Edges.due(what, x.heard(), trust >= least ? 63 : 0);
                Edges.due(what + ", off", x.let(3, false), false);
                Edges.due(what + ", on again", x.let(3, true), trust >= least);
            }
        }
    }

    private static void givenValues() {
        Edges.sentence(HERE, "The given value of an atom is told true if a source that is heard says a value for it "
                + "that is told true, and told false in the same way.");
        for (int a : VALUES) {
            for (int b : VALUES) {
                RumourReasoner x = new RumourReasoner();
                x.report(0, 0, a);
                x.report(5, 0, b);
                Edges.due("of two that say " + a + " and " + b, x.given(0), a | b);
                x.let(5, false);
                Edges.due("of the one that is on", x.given(0), a);
                x.let(0, false);
                Edges.due("of none that is on", x.given(0), Edges.NONE);
                Edges.due("of an atom of which nothing is said", x.given(5), Edges.NONE);
            }
        }
        RumourReasoner x = new RumourReasoner();
        for (int source = 0; source < 6; source++) {
            x.report(source, 5, source < 5 ? Edges.TRUE : Edges.FALSE);
        }
        Edges.due("of all six", x.given(5), Edges.BOTH);
        x.setLeastTrust(51);
        Edges.due("of six who are not trusted", x.given(5), Edges.NONE);
        x.setTrust(5, 51);
        Edges.due("of one who is", x.given(5), Edges.FALSE);
    }

    private static void rules() {
        Edges.sentence(HERE, "Rules and settling. An atom can have a rule, which is a steady formula, or none (at "
                + "first).");
        for (int p = 0; p < 6; p++) {
            int atom = p;
            Edges.due("the rule of " + p + " at first", Edges.withAtoms().setRule(p, 5), -1);
            Edges.taken(Edges::busy, "a steady one", x -> x.setRule(atom, Edges.NOT_0));
            Edges.refused(Edges::busy, Edges.ARGUMENT, "an OPEN", x -> x.setRule(atom, Edges.OPEN_1));
            Edges.refused(Edges::busy, Edges.ARGUMENT, "an IF", x -> x.setRule(atom, Edges.IF_4));
            Edges.taken(Edges::busy, "none", x -> x.setRule(atom, -1));
        }
        Edges.sentence(HERE, "In round 0 each atom has its given value.");
        RumourReasoner x = Edges.withAtoms();
        for (int p = 0; p < 6; p++) {
            x.report(p, p, Edges.TRUE);
            x.setRule(p, x.turn(2, p));
        }
        for (int p = 0; p < 6; p++) {
            Edges.due("what is given is so since", x.since(p, true), 0);
            Edges.due("what a rule tells is so since", x.since(p, false), 1);
            Edges.due("given(" + p + ")", x.given(p), Edges.TRUE);
        }
        Edges.sentence(HERE, "In each further round, the new value of an atom with a rule is the MERGE of its given "
                + "value and the value of its rule in the round before; that of an atom without a rule is its given "
                + "value.");
        for (int v : VALUES) {
            for (int w : VALUES) {
                RumourReasoner y = Edges.withAtoms();
                y.report(0, 0, v);
                y.setRule(0, y.constant(w));
                y.report(0, 5, v);
                Edges.due("given " + v + " and a rule of " + w, y.settled(0), v | w);
                Edges.due("given " + v + " and no rule", y.settled(5), v);
                y.setRule(0, -1);
                Edges.due("given " + v + " and a rule taken away", y.settled(0), v);
            }
        }
        // The two take each other's values of the round before, not those that this round has made already.
        RumourReasoner swap = Edges.withAtoms();
        swap.report(0, 0, Edges.TRUE);
        for (int p = 1; p < 6; p++) {
            swap.setRule(p, p - 1);
        }
        Edges.due("a chain upwards takes a round a link", swap.since(5, true), 5);
        RumourReasoner down = Edges.withAtoms();
        down.report(0, 5, Edges.TRUE);
        for (int p = 0; p < 5; p++) {
            down.setRule(p, p + 1);
        }
        Edges.due("a chain downwards too", down.since(0, true), 5);
    }

    private static void rounds() {
        Edges.sentence(HERE, "This ends when a round has the same values as the one before; this one is not counted.");
        Edges.due("rounds() of a new object", new RumourReasoner().rounds(), 0);
        RumourReasoner same = Edges.withAtoms();
        same.report(0, 0, Edges.BOTH);
        same.setRule(0, 1);
        same.setRule(5, 4);
        Edges.due("rounds() with rules that tell nothing new", same.rounds(), 0);
        for (int back = -1; back < 6; back++) {
            Edges.due("rounds() of a ring that turns back at " + back, Edges.ring(back).rounds(), 7 + back);
        }
        Edges.sentence(HERE, "The settled values are those of the last round that counts.");
        for (int p = 0; p < 6; p++) {
            Edges.due("settled(" + p + ") of the longest ring", Edges.ring(5).settled(p), Edges.BOTH);
            Edges.due("settled(" + p + ") of one that does not turn back", Edges.ring(-1).settled(p), Edges.TRUE);
            Edges.due("settled(" + p + ") of a new object", new RumourReasoner().settled(p), Edges.NONE);
        }
    }

    private static void logics() {
        Edges.sentence(HERE, "Logics. A logic is a set of values that atoms can have, told as the sum of the powers "
                + "2^v of its values v; it is not empty; all four at first.");
        Edges.due("the logic at first", new RumourReasoner().setLogic(1), 15);
        for (int p = 0; p < 6; p++) {
            for (int logic = 1; logic <= 15; logic++) {
                RumourReasoner x = Edges.withAtoms();
                x.setLogic(logic);
                Edges.due("what atom " + p + " can be in " + logic, x.range(p), logic);
            }
        }
        Edges.refused(Edges::busy, Edges.ARGUMENT, "the empty logic", x -> x.setLogic(0));
        Edges.refused(Edges::busy, Edges.ARGUMENT, "a fifth value", x -> x.setLogic(16));

        Edges.sentence(HERE, "(Formulas can have all four values in each logic.)");
        for (int logic = 1; logic <= 15; logic++) {
            for (int v : VALUES) {
                RumourReasoner x = new RumourReasoner();
                x.setLogic(logic);
                Edges.due("the VALUE " + v + " in " + logic, x.range(x.constant(v)), 1 << v);
            }
        }
    }

    private static void valuations() {
        Edges.sentence(HERE, "A valuation gives to each atom a value of the logic; it is told as the number whose "
                + "digits in base 4 are the values of the atoms 0 to 5, the digit of the atom 0 being the highest "
                + "one.");
        int[] sizes = {1, 64, 729, 4096};
        for (int logic = 1; logic <= 15; logic++) {
            RumourReasoner x = new RumourReasoner();
            int yes = x.constant(Edges.TRUE);
            int no = x.constant(Edges.NONE);
            x.setLogic(logic);
            Edges.due("the number of valuations of " + logic, x.models(yes), sizes[Integer.bitCount(logic) - 1]);
            Edges.due("the smallest one of " + logic, x.against(yes, no),
                    Edges.allOf(Integer.numberOfTrailingZeros(logic)));
        }
        RumourReasoner x = Edges.withAtoms();
        int number = Edges.valuation(1, 2, 3, 0, 2, 1);
        int[] digits = {1, 2, 3, 0, 2, 1};
        for (int p = 0; p < 6; p++) {
            Edges.due("the digit of " + p, x.valueAt(p, number), digits[p]);
            Edges.due("the least of " + p, x.valueAt(p, Edges.placeOf(p)), Edges.TRUE);
        }
    }

    private static void sets() {
        Edges.sentence(HERE, "Sets of atoms and sources are told as the sum of the powers 2^k of their numbers k.");
        RumourReasoner none = new RumourReasoner();
        Edges.due("no atoms", none.conflicts(), 0);
        Edges.due("all atoms", none.gaps(), 63);
        Edges.due("all sources", none.heard(), 63);
        for (int k = 0; k < 6; k++) {
            RumourReasoner x = new RumourReasoner();
            x.report(k, k, Edges.BOTH);
            Edges.due("the atom " + k, x.conflicts(), 1 << k);
            Edges.due("all atoms but " + k, x.gaps(), 63 - (1 << k));
            Edges.due("the source " + k, x.sayers(k, true), 1 << k);
            Edges.due("the source " + k, x.silence(), 1 << k);
            x.let(k, false);
            Edges.due("all sources but " + k, x.heard(), 63 - (1 << k));
        }
        for (int k = 0; k < 6; k++) {
            none.let(k, false);
        }
        Edges.due("no sources", none.heard(), 0);
    }

    private static void refusedCallsChangeNothing() {
        Edges.sentence(HERE, "A method that throws an exception changes nothing.");
        // A refused call after another, and then one that is taken: all as if the refused ones had not been made.
        RumourReasoner x = Edges.busy();
        for (int round = 0; round < 3; round++) {
            for (Edges.Call call : refusals()) {
                Edges.due("a call that is refused", Edges.answer(x, call) instanceof String, true);
            }
        }
        RumourReasoner twin = Edges.busy();
        Edges.due("what is seen after all of them", Edges.view(x), Edges.view(twin));
        Edges.Call[] after = {
            y -> y.join(6, 0, 12), y -> y.turn(8, 14), y -> y.setRule(5, 14), y -> y.report(5, 5, 2),
            y -> y.setTrust(5, 30), y -> y.setLeastTrust(31), y -> y.let(4, true), y -> y.setLogic(6),
            y -> y.digest()
        };
        for (Edges.Call call : after) {
            Edges.due("a call after them", Edges.answer(x, call), Edges.answer(twin, call));
        }
        Edges.due("what is seen then", Edges.view(x), Edges.view(twin));
    }

    private static Edges.Call[] refusals() {
        return new Edges.Call[] {
            x -> x.atom(6), x -> x.constant(4), x -> x.turn(2, 14), x -> x.turn(7, 0), x -> x.join(3, 0, 14),
            x -> x.join(3, 14, 0), x -> x.join(8, 0, 0), x -> x.isSteady(14), x -> x.report(6, 0, 1),
            x -> x.report(0, 6, 1), x -> x.report(0, 0, 4), x -> x.setTrust(6, 1), x -> x.setTrust(0, 0),
            x -> x.setLeastTrust(101), x -> x.let(-1, true), x -> x.setRule(6, -1), x -> x.setRule(0, 14),
            x -> x.setRule(0, -2), x -> x.setRule(0, Edges.OPEN_1), x -> x.given(6), x -> x.settled(-1),
            x -> x.since(6, true), x -> x.value(14), x -> x.sayers(6, false), x -> x.matters(6, 0),
            x -> x.matters(0, 6), x -> x.contradicted(6), x -> x.setLogic(0), x -> x.models(14), x -> x.range(-1),
            x -> x.entails(0, 14), x -> x.against(14, 0), x -> x.areEqual(0, -1), x -> x.depends(0, 6),
            x -> x.depends(14, 0), x -> x.valueAt(14, 0), x -> x.valueAt(0, 4096)
        };
    }

    private static void firstNamedFirst() {
        Edges.sentence(HERE, "If several exceptions apply, the one that is named first is thrown.");
        Edges.Maker full = Edges::full;
        Edges.refused(full, Edges.INDEX, "atom(6) as the 41st", x -> x.atom(6));
        Edges.refused(full, Edges.ARGUMENT, "constant(4) as the 41st", x -> x.constant(4));
        Edges.refused(full, Edges.INDEX, "turn(2, 40) as the 41st", x -> x.turn(2, 40));
        Edges.refused(full, Edges.INDEX, "turn(3, 40) as the 41st", x -> x.turn(3, 40));
        Edges.refused(full, Edges.ARGUMENT, "turn(3, 39) as the 41st", x -> x.turn(3, 39));
        Edges.refused(full, Edges.INDEX, "join(3, 40, 0) as the 41st", x -> x.join(3, 40, 0));
        Edges.refused(full, Edges.INDEX, "join(3, 0, -1) as the 41st", x -> x.join(3, 0, -1));
        Edges.refused(full, Edges.INDEX, "join(2, 40, 40) as the 41st", x -> x.join(2, 40, 40));
        Edges.refused(full, Edges.ARGUMENT, "join(2, 39, 39) as the 41st", x -> x.join(2, 39, 39));
        Edges.Maker busy = Edges::busy;
        Edges.refused(busy, Edges.INDEX, "turn(3, 14)", x -> x.turn(3, 14));
        Edges.refused(busy, Edges.INDEX, "join(8, 14, 0)", x -> x.join(8, 14, 0));
        Edges.refused(busy, Edges.INDEX, "join(8, 0, 14)", x -> x.join(8, 0, 14));
        Edges.refused(busy, Edges.INDEX, "report(6, 0, 4)", x -> x.report(6, 0, 4));
        Edges.refused(busy, Edges.INDEX, "report(0, -1, 4)", x -> x.report(0, -1, 4));
        Edges.refused(busy, Edges.INDEX, "report(-1, 6, -1)", x -> x.report(-1, 6, -1));
        Edges.refused(busy, Edges.INDEX, "setTrust(6, 101)", x -> x.setTrust(6, 101));
        Edges.refused(busy, Edges.INDEX, "setTrust(-1, 0)", x -> x.setTrust(-1, 0));
        Edges.refused(busy, Edges.INDEX, "setRule(6, OPEN)", x -> x.setRule(6, Edges.OPEN_1));
        Edges.refused(busy, Edges.INDEX, "setRule(-1, IF)", x -> x.setRule(-1, Edges.IF_4));
        Edges.refused(busy, Edges.INDEX, "valueAt(14, 4096)", x -> x.valueAt(14, 4096));
        Edges.refused(busy, Edges.INDEX, "valueAt(-1, -1)", x -> x.valueAt(-1, -1));
    }

    private static void face() {
        Edges.sentence(HERE, "The constructor and the methods follow, a promise each: the signature, then what it "
                + "does.");
        long methods = java.util.Arrays.stream(RumourReasoner.class.getDeclaredMethods())
                .filter(method -> Modifier.isPublic(method.getModifiers())).count();
        Edges.due("the number of methods", methods, 33L);
        Edges.due("the number of constructors", RumourReasoner.class.getConstructors().length, 1);
    }
}
