import java.util.Arrays;

/**
 * A plain model of the document: values as two booleans, formulas as parts, valuations one after the other. It is slow
 * and shares no thought with the class, so that the two are not wrong in the same way.
 */
final class Model {
    /** What a call of the model may throw, told by its name alone. */
    private static final class Refused extends Exception {
        private static final long serialVersionUID = 1L;

        Refused(String name) {
            super(name);
        }
    }

    private final int[][] formulas = new int[40][];
    private int count = 0;
    private final int[] trust = {50, 50, 50, 50, 50, 50};
    private final boolean[] on = {true, true, true, true, true, true};
    private final int[][] says = new int[6][6];
    private int leastTrust = 1;
    private final int[] rules = {-1, -1, -1, -1, -1, -1};
    private int logic = 15;

    /** The answer that is due, or the name of the exception. */
    String due(String method, int... a) {
        try {
            return String.valueOf(answer(method, a));
        } catch (Refused e) {
            return e.getMessage();
        }
    }

    int count() {
        return count;
    }

    /** From the first formula on, since a formula can be a part of many others. */
    boolean steady(int formula) {
        boolean[] steady = new boolean[formula + 1];
        for (int f = 0; f <= formula; f++) {
            int[] parts = formulas[f];
            steady[f] = switch (parts[0]) {
                case 0, 1 -> true;
                case 2 -> steady[parts[1]];
                case 7, 8 -> false;
                default -> steady[parts[1]] && steady[parts[2]];
            };
        }
        return steady[formula];
    }

    // ---- what is refused

    private static void index(boolean isGood) throws Refused {
        if (!isGood) {
            throw new Refused("IndexOutOfBoundsException");
        }
    }

    private static void argument(boolean isGood) throws Refused {
        if (!isGood) {
            throw new Refused("IllegalArgumentException");
        }
    }

    private static boolean six(int k) {
        return 0 <= k && k <= 5;
    }

    private boolean known(int formula) {
        return 0 <= formula && formula < count;
    }

    // ---- formulas

    private int create(int kind, int a, int b) throws Refused {
        if (count == 40) {
            throw new Refused("IllegalStateException");
        }
        formulas[count] = new int[] {kind, a, b};
        return count++;
    }

    private static boolean told(int value, boolean isTrue) {
        return value == 3 || value == (isTrue ? 1 : 2);
    }

    private static int make(boolean isTrue, boolean isFalse) {
        return isTrue ? (isFalse ? 3 : 1) : (isFalse ? 2 : 0);
    }

    private static int apply(int kind, int a, int b) {
        boolean at = told(a, true);
        boolean af = told(a, false);
        boolean bt = told(b, true);
        boolean bf = told(b, false);
        return switch (kind) {
            case 2 -> make(af, at);
            case 3 -> make(at && bt, af || bf);
            case 4 -> make(at || bt, af && bf);
            case 5 -> make(at && bt, af && bf);
            case 6 -> make(at || bt, af || bf);
            case 7 -> at ? b : 1;
            case 8 -> make(!af, !at);
            default -> throw new AssertionError();
        };
    }

    private int eval(int formula, int[] atoms) {
        int[] values = new int[formula + 1];
        for (int f = 0; f <= formula; f++) {
            int[] parts = formulas[f];
            values[f] = switch (parts[0]) {
                case 0 -> atoms[parts[1]];
                case 1 -> parts[1];
                case 2, 8 -> apply(parts[0], values[parts[1]], 0);
                default -> apply(parts[0], values[parts[1]], values[parts[2]]);
            };
        }
        return values[formula];
    }

    // ---- reports, rules and sources

    private boolean isHeard(int source, int off) {
        return on[source] && (off >> source & 1) == 0 && trust[source] >= leastTrust;
    }

    private int[] firstRound(int off) {
        int[] values = new int[6];
        for (int atom = 0; atom < 6; atom++) {
            boolean isTrue = false;
            boolean isFalse = false;
            for (int source = 0; source < 6; source++) {
                if (isHeard(source, off)) {
                    isTrue |= told(says[source][atom], true);
                    isFalse |= told(says[source][atom], false);
                }
            }
            values[atom] = make(isTrue, isFalse);
        }
        return values;
    }

    /** The rounds that count, one after the other. */
    private int[][] settle(int off) {
        int[] first = firstRound(off);
        int[][] rounds = {first};
        while (true) {
            int[] before = rounds[rounds.length - 1];
            int[] next = new int[6];
            for (int atom = 0; atom < 6; atom++) {
                next[atom] = rules[atom] < 0 ? first[atom] : apply(6, first[atom], eval(rules[atom], before));
            }
            if (Arrays.equals(next, before)) {
                return rounds;
            }
            rounds = Arrays.copyOf(rounds, rounds.length + 1);
            rounds[rounds.length - 1] = next;
        }
    }

    private int[] last(int off) {
        int[][] rounds = settle(off);
        return rounds[rounds.length - 1];
    }

    private static int atomsWith(int[] values, int wanted) {
        int set = 0;
        for (int atom = 0; atom < 6; atom++) {
            set += values[atom] == wanted ? 1 << atom : 0;
        }
        return set;
    }

    private int since(int atom, boolean isTrue) {
        int[][] rounds = settle(0);
        for (int round = 0; round < rounds.length; round++) {
            if (told(rounds[round][atom], isTrue)) {
                return round;
            }
        }
        return -1;
    }

    private double discord() {
        int both = Integer.bitCount(atomsWith(last(0), 3));
        int some = 6 - Integer.bitCount(atomsWith(last(0), 0));
        return some == 0 ? 0 : (double) both / some;
    }

    private int heard() {
        int set = 0;
        for (int source = 0; source < 6; source++) {
            set += isHeard(source, 0) ? 1 << source : 0;
        }
        return set;
    }

    private int sayers(int atom, boolean isTrue) {
        int set = 0;
        for (int source = 0; source < 6; source++) {
            set += isHeard(source, 0) && told(says[source][atom], isTrue) ? 1 << source : 0;
        }
        return set;
    }

    private int silence() {
        int best = -1;
        int bestSum = 0;
        for (int set = 0; set < 64; set++) {
            int sum = 0;
            for (int source = 0; source < 6; source++) {
                sum += (set >> source & 1) * trust[source];
            }
            if ((set | heard()) == heard() && atomsWith(last(set), 3) == 0 && (best < 0 || sum < bestSum)) {
                best = set;
                bestSum = sum;
            }
        }
        return best;
    }

    private int contradicted(int source) {
        int[] values = last(0);
        int number = 0;
        for (int atom = 0; atom < 6; atom++) {
            number += told(says[source][atom], true) && told(values[atom], false)
                    || told(says[source][atom], false) && told(values[atom], true) ? 1 : 0;
        }
        return number;
    }

    // ---- logics

    private static int[] digits(int valuation) {
        int[] atoms = new int[6];
        int rest = valuation;
        for (int atom = 5; atom >= 0; atom--) {
            atoms[atom] = rest % 4;
            rest /= 4;
        }
        return atoms;
    }

    private boolean ofLogic(int[] atoms) {
        for (int value : atoms) {
            if ((logic >> value & 1) == 0) {
                return false;
            }
        }
        return true;
    }

    private int models(int formula) {
        int models = 0;
        for (int n = 0; n < 4096; n++) {
            int[] atoms = digits(n);
            models += ofLogic(atoms) && told(eval(formula, atoms), true) ? 1 : 0;
        }
        return models;
    }

    private int range(int formula) {
        int set = 0;
        for (int n = 0; n < 4096; n++) {
            int[] atoms = digits(n);
            set |= ofLogic(atoms) ? 1 << eval(formula, atoms) : 0;
        }
        return set;
    }

    private int against(int a, int b) {
        for (int n = 0; n < 4096; n++) {
            int[] atoms = digits(n);
            if (ofLogic(atoms) && told(eval(a, atoms), true) && !told(eval(b, atoms), true)) {
                return n;
            }
        }
        return -1;
    }

    private boolean areEqual(int a, int b) {
        for (int n = 0; n < 4096; n++) {
            int[] atoms = digits(n);
            if (ofLogic(atoms) && eval(a, atoms) != eval(b, atoms)) {
                return false;
            }
        }
        return true;
    }

    private boolean depends(int formula, int atom) {
        for (int n = 0; n < 4096; n++) {
            int[] atoms = digits(n);
            if (ofLogic(atoms)) {
                int here = eval(formula, atoms);
                for (int value = 0; value < 4; value++) {
                    atoms[atom] = value;
                    if (ofLogic(atoms) && eval(formula, atoms) != here) {
                        return true;
                    }
                }
            }
        }
        return false;
    }

    private long digest() {
        StringBuilder all = new StringBuilder();
        all.append(count);
        for (int f = 0; f < count; f++) {
            all.append(' ').append(formulas[f][0]);
        }
        all.append(' ').append(leastTrust);
        for (int source = 0; source < 6; source++) {
            all.append(' ').append(trust[source]).append(' ').append(on[source] ? 1 : 0);
            for (int atom = 0; atom < 6; atom++) {
                all.append(' ').append(says[source][atom]);
            }
        }
        int[][] rounds = settle(0);
        for (int atom = 0; atom < 6; atom++) {
            all.append(' ').append(rules[atom]).append(' ').append(rounds[0][atom]);
            all.append(' ').append(rounds[rounds.length - 1][atom]);
        }
        all.append(' ').append(rounds.length - 1).append(' ').append(logic);
        long d = 131;
        for (String x : all.toString().split(" ")) {
            d = d * 31 + Long.parseLong(x);
        }
        return d;
    }

    // ---- the calls, with a boolean argument as 1 or 0

    private Object answer(String method, int[] a) throws Refused {
        switch (method) {
            case "atom": index(six(a[0])); return create(0, a[0], 0);
            case "constant": argument(0 <= a[0] && a[0] <= 3); return create(1, a[0], 0);
            case "turn": index(known(a[1])); argument(a[0] == 2 || a[0] == 8); return create(a[0], a[1], 0);
            case "join":
                index(known(a[1]) && known(a[2]));
                argument(3 <= a[0] && a[0] <= 7);
                return create(a[0], a[1], a[2]);
            case "formulaCount": return count;
            case "isSteady": index(known(a[0])); return steady(a[0]);
            case "report": case "setTrust": case "setLeastTrust": case "let": case "setRule": case "setLogic":
                return change(method, a);
            case "given": index(six(a[0])); return firstRound(0)[a[0]];
            case "settled": index(six(a[0])); return last(0)[a[0]];
            case "rounds": return settle(0).length - 1;
            case "since": index(six(a[0])); return since(a[0], a[1] == 1);
            case "value": index(known(a[0])); return eval(a[0], last(0));
            case "conflicts": return atomsWith(last(0), 3);
            case "gaps": return atomsWith(last(0), 0);
            case "discord": return discord();
            case "heard": return heard();
            case "sayers": index(six(a[0])); return sayers(a[0], a[1] == 1);
            case "matters":
                index(six(a[0]) && six(a[1]));
                return isHeard(a[0], 0) && last(0)[a[1]] != last(1 << a[0])[a[1]];
            case "silence": return silence();
            case "contradicted": index(six(a[0])); return contradicted(a[0]);
            case "models": index(known(a[0])); return models(a[0]);
            case "range": index(known(a[0])); return range(a[0]);
            case "entails": index(known(a[0]) && known(a[1])); return against(a[0], a[1]) == -1;
            case "against": index(known(a[0]) && known(a[1])); return against(a[0], a[1]);
            case "areEqual": index(known(a[0]) && known(a[1])); return areEqual(a[0], a[1]);
            case "depends": index(known(a[0]) && six(a[1])); return depends(a[0], a[1]);
            case "valueAt":
                index(known(a[0]));
                argument(0 <= a[1] && a[1] <= 4095);
                return eval(a[0], digits(a[1]));
            case "digest": return digest();
            default: throw new AssertionError(method);
        }
    }

    /** The calls that set something; all but let answer what was before. */
    private Object change(String method, int[] a) throws Refused {
        int before;
        switch (method) {
            case "report":
                index(six(a[0]) && six(a[1]));
                argument(0 <= a[2] && a[2] <= 3);
                before = says[a[0]][a[1]];
                says[a[0]][a[1]] = a[2];
                return before;
            case "setTrust":
                index(six(a[0]));
                argument(1 <= a[1] && a[1] <= 100);
                before = trust[a[0]];
                trust[a[0]] = a[1];
                return before;
            case "setLeastTrust":
                argument(1 <= a[0] && a[0] <= 100);
                before = leastTrust;
                leastTrust = a[0];
                return before;
            case "let":
                index(six(a[0]));
                on[a[0]] = a[1] == 1;
                return isHeard(a[0], 0);
            case "setRule":
                index(six(a[0]) && (a[1] == -1 || known(a[1])));
                argument(a[1] == -1 || steady(a[1]));
                before = rules[a[0]];
                rules[a[0]] = a[1];
                return before;
            case "setLogic":
                argument(1 <= a[0] && a[0] <= 15);
                before = logic;
                logic = a[0];
                return before;
            default: throw new AssertionError(method);
        }
    }
}
