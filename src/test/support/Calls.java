import java.util.ArrayList;
import java.util.Arrays;
import java.util.LinkedHashMap;
import java.util.List;
import java.util.Map;
import java.util.Random;

/** The calls of the document's face by their names, made on a RumourReasoner, and arguments for them by chance. */
final class Calls {
    // Each method, its parameters, and behind a bar the exceptions that it names (I index, A argument, S state).
    private static final String[] FACE = {
        "atom six | I S", "constant value | A S", "turn turn formula | I A S", "join join formula formula | I A S",
        "formulaCount |", "isSteady formula | I", "report six six value | I A", "setTrust six trust | I A",
        "setLeastTrust trust | A", "let six flag | I", "setRule six rule | I A", "given six | I", "settled six | I",
        "rounds |", "since six flag | I", "value formula | I", "conflicts |", "gaps |", "discord |", "heard |",
        "sayers six flag | I", "matters six six | I", "silence |", "contradicted six | I", "setLogic logic | A",
        "models formula | I", "range formula | I", "entails formula formula | I", "against formula formula | I",
        "areEqual formula formula | I", "depends formula six | I", "valueAt formula valuation | I A", "digest |",
    };
    private static final Map<String, String[]> PARAMETERS = new LinkedHashMap<>();
    private static final Map<String, List<String>> EXCEPTIONS = new LinkedHashMap<>();

    static {
        for (String row : FACE) {
            String[] halves = row.split("\\|", -1);
            String[] words = halves[0].strip().split(" ");
            PARAMETERS.put(words[0], Arrays.copyOfRange(words, 1, words.length));
            List<String> named = new ArrayList<>();
            for (String letter : halves[1].strip().split(" ")) {
                switch (letter) {
                    case "I" -> named.add("IndexOutOfBoundsException");
                    case "A" -> named.add("IllegalArgumentException");
                    case "S" -> named.add("IllegalStateException");
                    default -> { }
                }
            }
            EXCEPTIONS.put(words[0], named);
        }
    }

    private Calls() {
    }

    static List<String> methods() {
        return new ArrayList<>(PARAMETERS.keySet());
    }

    /** The exceptions that the document names for a method, in its order. */
    static List<String> exceptions(String method) {
        return EXCEPTIONS.get(method);
    }

    static boolean canHaveWrongArguments(String method) {
        return PARAMETERS.get(method).length > 0;
    }

    // ---- calls

    /** The answer, or the name of what the call throws; a boolean argument is 1 or 0. */
    static String answer(RumourReasoner x, String method, int... a) {
        try {
            return String.valueOf(call(x, method, a));
        } catch (RuntimeException e) {
            return e.getClass().getSimpleName();
        }
    }

    private static Object call(RumourReasoner x, String method, int[] a) {
        return switch (method) {
            case "atom" -> x.atom(a[0]);
            case "constant" -> x.constant(a[0]);
            case "turn" -> x.turn(a[0], a[1]);
            case "join" -> x.join(a[0], a[1], a[2]);
            case "formulaCount" -> x.formulaCount();
            case "isSteady" -> x.isSteady(a[0]);
            case "report" -> x.report(a[0], a[1], a[2]);
            case "setTrust" -> x.setTrust(a[0], a[1]);
            case "setLeastTrust" -> x.setLeastTrust(a[0]);
            case "let" -> x.let(a[0], a[1] == 1);
            case "setRule" -> x.setRule(a[0], a[1]);
            case "given" -> x.given(a[0]);
            case "settled" -> x.settled(a[0]);
            case "rounds" -> x.rounds();
            case "since" -> x.since(a[0], a[1] == 1);
            case "value" -> x.value(a[0]);
            case "conflicts" -> x.conflicts();
            case "gaps" -> x.gaps();
            case "discord" -> x.discord();
            case "heard" -> x.heard();
            case "sayers" -> x.sayers(a[0], a[1] == 1);
            case "matters" -> x.matters(a[0], a[1]);
            case "silence" -> x.silence();
            case "contradicted" -> x.contradicted(a[0]);
            case "setLogic" -> x.setLogic(a[0]);
            case "models" -> x.models(a[0]);
            case "range" -> x.range(a[0]);
            case "entails" -> x.entails(a[0], a[1]);
            case "against" -> x.against(a[0], a[1]);
            case "areEqual" -> x.areEqual(a[0], a[1]);
            case "depends" -> x.depends(a[0], a[1]);
            case "valueAt" -> x.valueAt(a[0], a[1]);
            case "digest" -> x.digest();
            default -> throw new AssertionError(method);
        };
    }

    // ---- arguments

    /** Arguments that the model takes, if it has a formula to be asked for and room for one more. */
    static int[] good(String method, Model model, Random random) {
        String[] kinds = PARAMETERS.get(method);
        int[] a = new int[kinds.length];
        for (int k = 0; k < a.length; k++) {
            a[k] = goodOne(kinds[k], model, random);
        }
        return a;
    }

    /** Arguments of which at least one is wrong, and often more; the method has one that can be. */
    static int[] wrong(String method, Model model, Random random) {
        String[] kinds = PARAMETERS.get(method);
        int[] a = good(method, model, random);
        int sure = random.nextInt(kinds.length);
        while (kinds[sure].equals("flag")) {
            sure = random.nextInt(kinds.length);
        }
        for (int k = 0; k < a.length; k++) {
            if (k == sure || random.nextInt(3) == 0) {
                a[k] = wrongOne(kinds[k], model, random);
            }
        }
        return a;
    }

    private static int goodOne(String kind, Model model, Random random) {
        return switch (kind) {
            case "six" -> random.nextInt(6);
            case "value" -> random.nextInt(4);
            case "turn" -> random.nextInt(3) == 0 ? 8 : 2;
            case "join" -> 3 + random.nextInt(random.nextInt(3) == 0 ? 5 : 4);
            case "formula" -> formula(model, random);
            case "rule" -> random.nextInt(6) == 0 ? -1 : steadyFormula(model, random);
            // Trusts near the first one are often equal to each other or to the least trust.
            case "trust" -> random.nextInt(3) == 0 ? 1 + random.nextInt(100) : 47 + random.nextInt(5);
            case "flag" -> random.nextInt(3) == 0 ? 0 : 1;
            case "logic" -> random.nextInt(4) == 0 ? 15 : 1 + random.nextInt(15);
            case "valuation" -> random.nextInt(4096);
            default -> throw new AssertionError(kind);
        };
    }

    private static int formula(Model model, Random random) {
        int count = model.count();
        // Late formulas hold the most parts.
        int choices = count > 4 && random.nextBoolean() ? 4 : Math.max(count, 1);
        return Math.max(count - 1 - random.nextInt(choices), 0);
    }

    private static int steadyFormula(Model model, Random random) {
        for (int tries = 0; tries < 20 && model.count() > 0; tries++) {
            int formula = formula(model, random);
            if (model.steady(formula)) {
                return formula;
            }
        }
        return -1;
    }

    private static int wrongOne(String kind, Model model, Random random) {
        int count = model.count();
        int[] wrong = switch (kind) {
            case "six" -> new int[] {-1, 6, 7, 38};
            case "value" -> new int[] {-1, 4, 7};
            case "turn" -> new int[] {-1, 0, 1, 3, 6, 7, 9, 10};
            case "join" -> new int[] {-1, 0, 1, 2, 8, 9};
            case "formula" -> new int[] {-1, -2, count, count + 1, 40, 41, 1 << 26};
            case "rule" -> new int[] {-2, count, 40, unsteadyFormula(model, random), unsteadyFormula(model, random)};
            case "trust" -> new int[] {-1, 0, 101, 150};
            case "flag" -> new int[] {0, 1};
            case "logic" -> new int[] {-1, 0, 16, 31};
            case "valuation" -> new int[] {-1, 4096, 4097, 8191};
            default -> throw new AssertionError(kind);
        };
        boolean isFar = !kind.equals("flag") && random.nextInt(8) == 0;
        return isFar ? (random.nextBoolean() ? Integer.MIN_VALUE : Integer.MAX_VALUE)
                : wrong[random.nextInt(wrong.length)];
    }

    private static int unsteadyFormula(Model model, Random random) {
        for (int tries = 0; tries < 20 && model.count() > 0; tries++) {
            int formula = formula(model, random);
            if (!model.steady(formula)) {
                return formula;
            }
        }
        return model.count();
    }
}
