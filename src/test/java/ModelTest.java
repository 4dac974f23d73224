import java.util.Random;

/**
 * Runs random calls on a RumourReasoner and on a plain model that follows the document word by word (values as two
 * booleans, formulas as parts, valuations one after the other), and compares each answer and each exception.
 */
public final class ModelTest {
    private static final int RUNS = 240;
    private static final int CALLS = 512;
    private static int wrong = 0;

    public static void main(String[] args) {
        for (int run = 0; run < RUNS && wrong < 20; run++) {
            new Run(run).go();
        }
        System.out.println(wrong == 0 ? "ModelTest: all answers are as due" : "ModelTest: " + wrong + " wrong");
        if (wrong != 0) {
            System.exit(1);
        }
    }

    /** What a call of the model may throw, told by its name alone. */
    private static final class Refused extends Exception {
        private static final long serialVersionUID = 1L;

        Refused(String name) {
            super(name);
        }
    }

    private static final class Model {
        final int[][] formulas = new int[40][];
        int count = 0;
        final int[] trust = {50, 50, 50, 50, 50, 50};
        final boolean[] on = {true, true, true, true, true, true};
        final int[][] says = new int[6][6];
        int leastTrust = 1;
        final int[] rules = {-1, -1, -1, -1, -1, -1};
        int logic = 15;

        static void index(boolean isGood) throws Refused {
            if (!isGood) {
                throw new Refused("IndexOutOfBoundsException");
            }
        }

        static void argument(boolean isGood) throws Refused {
            if (!isGood) {
                throw new Refused("IllegalArgumentException");
            }
        }

        static boolean six(int k) {
            return 0 <= k && k <= 5;
        }

        boolean known(int formula) {
            return 0 <= formula && formula < count;
        }

        int create(int kind, int a, int b) throws Refused {
            if (count == 40) {
                throw new Refused("IllegalStateException");
            }
            formulas[count] = new int[] {kind, a, b};
            return count++;
        }

        static boolean told(int value, boolean isTrue) {
            return value == 3 || value == (isTrue ? 1 : 2);
        }

        static int make(boolean isTrue, boolean isFalse) {
            return isTrue ? (isFalse ? 3 : 1) : (isFalse ? 2 : 0);
        }

        static int apply(int kind, int a, int b) {
            boolean at = told(a, true);
            boolean af = told(a, false);
            boolean bt = told(b, true);
            boolean bf = told(b, false);
            return switch (kind) {
                case 2 -> make(af, at);
                case 3 -> make(at && bt, af || bf);
                case 4 -> make(at || bt, af && bf);
                case 5 -> make(at && bt, af && bf);
                case 6 -> make(at || bt, af || bf);
                case 7 -> at ? b : 1;
                case 8 -> make(!af, !at);
                default -> throw new AssertionError();
            };
        }

        int eval(int formula, int[] atoms) {
            int[] values = new int[formula + 1];
            for (int f = 0; f <= formula; f++) {
                int[] parts = formulas[f];
                values[f] = switch (parts[0]) {
                    case 0 -> atoms[parts[1]];
                    case 1 -> parts[1];
                    case 2, 8 -> apply(parts[0], values[parts[1]], 0);
                    default -> apply(parts[0], values[parts[1]], values[parts[2]]);
                };
            }
            return values[formula];
        }

        boolean steady(int formula) {
            boolean[] steady = new boolean[formula + 1];
            for (int f = 0; f <= formula; f++) {
                int[] parts = formulas[f];
                steady[f] = parts[0] < 2 || parts[0] != 7 && parts[0] != 8 && steady[parts[1]]
                        && (parts[0] == 2 || steady[parts[2]]);
            }
            return steady[formula];
        }

        boolean isHeard(int source, int off) {
            return on[source] && (off >> source & 1) == 0 && trust[source] >= leastTrust;
        }

        int[] firstRound(int off) {
            int[] values = new int[6];
            for (int atom = 0; atom < 6; atom++) {
                boolean isTrue = false;
                boolean isFalse = false;
                for (int source = 0; source < 6; source++) {
                    if (isHeard(source, off)) {
                        isTrue |= told(says[source][atom], true);
                        isFalse |= told(says[source][atom], false);
                    }
                }
                values[atom] = make(isTrue, isFalse);
            }
            return values;
        }

        /** The rounds that count, one after the other. */
        int[][] settle(int off) {
            int[] first = firstRound(off);
            int[][] rounds = {first};
            while (true) {
                int[] before = rounds[rounds.length - 1];
                int[] next = new int[6];
                for (int atom = 0; atom < 6; atom++) {
                    next[atom] = rules[atom] < 0 ? first[atom] : apply(6, first[atom], eval(rules[atom], before));
                }
                if (java.util.Arrays.equals(next, before)) {
                    return rounds;
                }
                rounds = java.util.Arrays.copyOf(rounds, rounds.length + 1);
                rounds[rounds.length - 1] = next;
            }
        }

        int[] last(int off) {
            int[][] rounds = settle(off);
            return rounds[rounds.length - 1];
        }

        int number(int[] values, int wanted) {
            int set = 0;
            for (int atom = 0; atom < 6; atom++) {
                set += values[atom] == wanted ? 1 << atom : 0;
            }
            return set;
        }

        int heardSet() {
            int set = 0;
            for (int source = 0; source < 6; source++) {
                set += isHeard(source, 0) ? 1 << source : 0;
            }
            return set;
        }

        int silence() {
            int best = -1;
            int bestSum = 0;
            for (int set = 0; set < 64; set++) {
                int sum = 0;
                for (int source = 0; source < 6; source++) {
                    sum += (set >> source & 1) * trust[source];
                }
                if ((set | heardSet()) == heardSet() && number(last(set), 3) == 0 && (best < 0 || sum < bestSum)) {
                    best = set;
                    bestSum = sum;
                }
            }
            return best;
        }

        static int[] digits(int valuation) {
            int[] atoms = new int[6];
            for (int atom = 5; atom >= 0; atom--) {
                atoms[atom] = valuation % 4;
                valuation /= 4;
            }
            return atoms;
        }

        boolean ofLogic(int[] atoms) {
            for (int value : atoms) {
                if ((logic >> value & 1) == 0) {
                    return false;
                }
            }
            return true;
        }

        int models(int formula) {
            int models = 0;
            for (int n = 0; n < 4096; n++) {
                int[] atoms = digits(n);
                models += ofLogic(atoms) && told(eval(formula, atoms), true) ? 1 : 0;
            }
            return models;
        }

        int range(int formula) {
            int set = 0;
            for (int n = 0; n < 4096; n++) {
                int[] atoms = digits(n);
                set |= ofLogic(atoms) ? 1 << eval(formula, atoms) : 0;
            }
            return set;
        }

        int against(int a, int b) {
            for (int n = 0; n < 4096; n++) {
                int[] atoms = digits(n);
                if (ofLogic(atoms) && told(eval(a, atoms), true) && !told(eval(b, atoms), true)) {
                    return n;
                }
            }
            return -1;
        }

        boolean areEqual(int a, int b) {
            for (int n = 0; n < 4096; n++) {
                int[] atoms = digits(n);
                if (ofLogic(atoms) && eval(a, atoms) != eval(b, atoms)) {
                    return false;
                }
            }
            return true;
        }

        boolean depends(int formula, int atom) {
            for (int n = 0; n < 4096; n++) {
                int[] atoms = digits(n);
                if (ofLogic(atoms)) {
                    int here = eval(formula, atoms);
                    for (int value = 0; value < 4; value++) {
                        atoms[atom] = value;
                        if (ofLogic(atoms) && eval(formula, atoms) != here) {
                            return true;
                        }
                    }
                }
            }
            return false;
        }

        long digest() {
            StringBuilder all = new StringBuilder();
            all.append(count);
            for (int f = 0; f < count; f++) {
                all.append(' ').append(formulas[f][0]);
            }
            all.append(' ').append(leastTrust);
            for (int source = 0; source < 6; source++) {
                all.append(' ').append(trust[source]).append(' ').append(on[source] ? 1 : 0);
                for (int atom = 0; atom < 6; atom++) {
                    all.append(' ').append(says[source][atom]);
                }
            }
            int[][] rounds = settle(0);
            for (int atom = 0; atom < 6; atom++) {
                all.append(' ').append(rules[atom]).append(' ').append(rounds[0][atom]);
                all.append(' ').append(rounds[rounds.length - 1][atom]);
            }
            all.append(' ').append(rounds.length - 1).append(' ').append(logic);
            long d = 131;
            for (String x : all.toString().split(" ")) {
                d = d * 31 + Long.parseLong(x);
            }
            return d;
        }

        double answer(int method, int p, int q, int r) throws Refused {
            switch (method) {
                case 0: index(six(p)); return create(0, p, 0);
                case 1: argument(0 <= p && p <= 3); return create(1, p, 0);
                case 2: index(known(q)); argument(p == 2 || p == 8); return create(p, q, 0);
                case 3: index(known(q) && known(r)); argument(3 <= p && p <= 7); return create(p, q, r);
                case 4: return count;
                case 5: index(known(p)); return steady(p) ? 1 : 0;
                case 6: {
                    index(six(p) && six(q));
                    argument(0 <= r && r <= 3);
                    int before = says[p][q];
                    says[p][q] = r;
                    return before;
                }
                case 7: {
                    index(six(p));
                    argument(1 <= q && q <= 100);
                    int before = trust[p];
                    trust[p] = q;
                    return before;
                }
                case 8: {
                    argument(1 <= p && p <= 100);
                    int before = leastTrust;
                    leastTrust = p;
                    return before;
                }
                case 9: {
                    index(six(p));
                    on[p] = q > 0;
                    return on[p] && trust[p] >= leastTrust ? 1 : 0;
                }
                case 10: {
                    index(six(p) && (q == -1 || known(q)));
                    argument(q == -1 || steady(q));
                    int before = rules[p];
                    rules[p] = q;
                    return before;
                }
                case 11: index(six(p)); return firstRound(0)[p];
                case 12: index(six(p)); return last(0)[p];
                case 13: return settle(0).length - 1;
                case 14: {
                    index(six(p));
                    int[][] rounds = settle(0);
                    for (int round = 0; round < rounds.length; round++) {
                        if (told(rounds[round][p], q > 0)) {
                            return round;
                        }
                    }
                    return -1;
                }
                case 15: index(known(p)); return eval(p, last(0));
                case 16: return number(last(0), 3);
                case 17: return number(last(0), 0);
                case 18: {
                    int both = Integer.bitCount(number(last(0), 3));
                    int some = 6 - Integer.bitCount(number(last(0), 0));
                    return some == 0 ? 0 : (double) both / some;
                }
                case 19: return heardSet();
                case 20: {
                    index(six(p));
                    int set = 0;
                    for (int source = 0; source < 6; source++) {
                        set += isHeard(source, 0) && told(says[source][p], q > 0) ? 1 << source : 0;
                    }
                    return set;
                }
                case 21: index(six(p) && six(q)); return isHeard(p, 0) && last(0)[q] != last(1 << p)[q] ? 1 : 0;
                case 22: return silence();
                case 23: {
                    index(six(p));
                    int[] values = last(0);
                    int number = 0;
                    for (int atom = 0; atom < 6; atom++) {
                        number += told(says[p][atom], true) && told(values[atom], false)
                                || told(says[p][atom], false) && told(values[atom], true) ? 1 : 0;
                    }
                    return number;
                }
                case 24: {
                    argument(1 <= p && p <= 15);
                    int before = logic;
                    logic = p;
                    return before;
                }
                case 25: index(known(p)); return models(p);
                case 26: index(known(p)); return range(p);
                case 27: index(known(p) && known(q)); return against(p, q) == -1 ? 1 : 0;
                case 28: index(known(p) && known(q)); return against(p, q);
                case 29: index(known(p) && known(q)); return areEqual(p, q) ? 1 : 0;
                case 30: index(known(p) && six(q)); return depends(p, q) ? 1 : 0;
                case 31: index(known(p)); argument(0 <= q && q <= 4095); return eval(p, digits(q));
                default: throw new AssertionError(method);
            }
        }
    }

    private static final String[] NAMES = {
        "atom", "constant", "turn", "join", "formulaCount", "isSteady", "report", "setTrust", "setLeastTrust", "let",
        "setRule", "given", "settled", "rounds", "since", "value", "conflicts", "gaps", "discord", "heard", "sayers",
        "matters", "silence", "contradicted", "setLogic", "models", "range", "entails", "against", "areEqual",
        "depends", "valueAt"
    };

    private static double call(RumourReasoner x, int method, int p, int q, int r) {
        switch (method) {
            case 0: return x.atom(p);
            case 1: return x.constant(p);
            case 2: return x.turn(p, q);
            case 3: return x.join(p, q, r);
            case 4: return x.formulaCount();
            case 5: return x.isSteady(p) ? 1 : 0;
            case 6: return x.report(p, q, r);
            case 7: return x.setTrust(p, q);
            case 8: return x.setLeastTrust(p);
            case 9: return x.let(p, q > 0) ? 1 : 0;
            case 10: return x.setRule(p, q);
            case 11: return x.given(p);
            case 12: return x.settled(p);
            case 13: return x.rounds();
            case 14: return x.since(p, q > 0);
            case 15: return x.value(p);
            case 16: return x.conflicts();
            case 17: return x.gaps();
            case 18: return x.discord();
            case 19: return x.heard();
            case 20: return x.sayers(p, q > 0);
            case 21: return x.matters(p, q) ? 1 : 0;
            case 22: return x.silence();
            case 23: return x.contradicted(p);
            case 24: return x.setLogic(p);
            case 25: return x.models(p);
            case 26: return x.range(p);
            case 27: return x.entails(p, q) ? 1 : 0;
            case 28: return x.against(p, q);
            case 29: return x.areEqual(p, q) ? 1 : 0;
            case 30: return x.depends(p, q) ? 1 : 0;
            case 31: return x.valueAt(p, q);
            default: throw new AssertionError(method);
        }
    }

    private static final class Run {
        private static final int[] ODD = {-1, -2, 6, 7, 40, 41, 101, 4096, Integer.MAX_VALUE, Integer.MIN_VALUE};
        final int number;
        final Random random;
        final Model model = new Model();
        final RumourReasoner reasoner = new RumourReasoner();
        final int oddShare;
        final int creationShare;

        Run(int number) {
            this.number = number;
            random = new Random(1000003L * number + 17);
            oddShare = number % 4 == 0 ? 10 : 60;
            creationShare = 2 + random.nextInt(12);
        }

        int pick(int low, int high) {
            if (random.nextInt(oddShare) == 0) {
                int[] near = {low - 1, high + 1, ODD[random.nextInt(ODD.length)]};
                return near[random.nextInt(3)];
            }
            return high < low ? low : low + random.nextInt(high - low + 1);
        }

        int formula() {
            // Late formulas hold the most parts.
            if (model.count > 4 && random.nextBoolean()) {
                return pick(model.count - 4, model.count - 1);
            }
            return pick(0, model.count - 1);
        }

        int method() {
            return random.nextInt(creationShare) == 0 ? random.nextInt(4)
                    : random.nextInt(3) == 0 ? 6 + random.nextInt(5) : random.nextInt(NAMES.length);
        }

        int[] arguments(int method) {
            switch (method) {
                case 0: case 11: case 12: case 23: return new int[] {pick(0, 5), 0, 0};
                case 1: return new int[] {pick(0, 3), 0, 0};
                case 2: {
                    int kind = random.nextInt(8) == 0 ? pick(0, 9) : 2 + 6 * random.nextInt(2);
                    return new int[] {kind, formula(), 0};
                }
                case 3: return new int[] {pick(3, random.nextInt(3) == 0 ? 7 : 6), formula(), formula()};
                case 5: case 15: case 25: case 26: return new int[] {formula(), 0, 0};
                case 6: return new int[] {pick(0, 5), pick(0, 5), pick(0, 3)};
                case 7: return new int[] {pick(0, 5), random.nextBoolean() ? pick(1, 100) : pick(48, 52), 0};
                case 8: return new int[] {random.nextBoolean() ? pick(1, 100) : pick(1, 50), 0, 0};
                case 9: case 14: case 20: return new int[] {pick(0, 5), random.nextInt(2), 0};
                case 10: return new int[] {pick(0, 5), random.nextInt(6) == 0 ? -1 : formula(), 0};
                case 21: return new int[] {pick(0, 5), pick(0, 5), 0};
                case 24: return new int[] {random.nextInt(3) == 0 ? 15 : pick(1, 15), 0, 0};
                case 27: case 28: case 29: return new int[] {formula(), formula(), 0};
                case 30: return new int[] {formula(), pick(0, 5), 0};
                case 31: return new int[] {formula(), pick(0, 4095), 0};
                default: return new int[] {0, 0, 0};
            }
        }

        void go() {
            for (int call = 0; call < CALLS / 2 && wrong < 20; call++) {
                int method = method();
                int[] a = arguments(method);
                String due;
                try {
                    due = String.valueOf(model.answer(method, a[0], a[1], a[2]));
                } catch (Refused e) {
                    due = e.getMessage();
                }
                String got;
                try {
                    got = String.valueOf(call(reasoner, method, a[0], a[1], a[2]));
                } catch (RuntimeException e) {
                    got = e.getClass().getSimpleName();
                }
                compare(call, NAMES[method] + java.util.Arrays.toString(a), got, due);
                compare(call, "digest", String.valueOf(reasoner.digest()), String.valueOf(model.digest()));
            }
        }

        void compare(int call, String what, String got, String due) {
            if (!got.equals(due)) {
                wrong++;
                System.out.println("run " + number + ", call " + call + ": " + what + " answered " + got
                        + ", due is " + due);
            }
        }
    }
}
