import java.util.Arrays;
import java.util.List;
import java.util.Random;

/** Compares the answers to calls by chance with those of a plain model, and the digest after each call. */
public final class ModelTest {
    private static final int RUNS = 240;
    // Each has a digest behind it, so an object is used for 512.
    private static final int CALLS = 256;
    private static final int MOST_WRONG = 20;
    private static final List<String> MAKERS = List.of("atom", "constant", "turn", "join");
    private static final List<String> SETTERS = List.of("report", "setTrust", "setLeastTrust", "let", "setRule");
    private static int wrong = 0;

    public static void main(String[] args) {
        for (int run = 0; run < RUNS && wrong < MOST_WRONG; run++) {
            go(run);
        }
        System.out.println(wrong == 0 ? "ModelTest: all answers are as due" : "ModelTest: " + wrong + " wrong");
        if (wrong != 0) {
            System.exit(1);
        }
    }

    private static void go(int run) {
        Random random = new Random(1000003L * run + 17);
        Model model = new Model();
        RumourReasoner reasoner = new RumourReasoner();
        int makersShare = 2 + random.nextInt(12);
        int wrongShare = run % 4 == 0 ? 3 : 20;
        for (int call = 0; call < CALLS && wrong < MOST_WRONG; call++) {
            String method = method(random, makersShare);
            boolean isWrong = Calls.canHaveWrongArguments(method) && random.nextInt(wrongShare) == 0;
            int[] a = isWrong ? Calls.wrong(method, model, random) : Calls.good(method, model, random);
            String where = "run " + run + ", call " + call + ": " + method + Arrays.toString(a);
            compare(where, Calls.answer(reasoner, method, a), model.due(method, a));
            compare(where + ", then digest", Calls.answer(reasoner, "digest"), model.due("digest"));
        }
    }

    private static String method(Random random, int makersShare) {
        List<String> from = random.nextInt(makersShare) == 0 ? MAKERS
                : random.nextInt(3) == 0 ? SETTERS : Calls.methods();
        return from.get(random.nextInt(from.size()));
    }

    private static void compare(String what, String got, String due) {
        if (!got.equals(due)) {
            wrong++;
            System.out.println(what + " answered " + got + ", due is " + due);
        }
    }
}
