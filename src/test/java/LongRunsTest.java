import java.util.ArrayList;
import java.util.Arrays;
import java.util.Collections;
import java.util.HashMap;
import java.util.HashSet;
import java.util.List;
import java.util.Map;
import java.util.Random;
import java.util.Set;
import java.util.stream.Stream;

/**
 * Runs of all the 512 calls that an object is used for, compared with a plain model. In each run there are calls of
 * every method, and refused calls between them. Two objects take turns, call by call, so that one cannot lean on the
 * other. The test fails too if its runs leave out what they are there for (see the requirements below).
 */
public final class LongRunsTest {
    private static final int PAIRS = 99;
    private static final int CALLS = 512;
    private static final int MOST_WRONG = 20;
    private static final int LEAST_ANSWERED = 3;
    private static final int LEAST_REFUSED = 100;
    private static final List<String> METHODS = Calls.methods();
    private static final List<String> MAKERS = List.of("atom", "constant", "turn", "join");
    private static final int MOST_ROUNDS = 12;
    // The formula 0 is TRUE, 1 to 6 are the atoms; each atom's rule is the atom before it, but that of the atom 0 is
    // the MERGE of TRUE and NOT the atom 5: TRUE goes round once, then FALSE does, and no rules need more rounds.
    private static final String[] RING = {
        "constant 1", "atom 0", "atom 1", "atom 2", "atom 3", "atom 4", "atom 5", "turn 2 6", "join 6 0 7",
        "setRule 0 8", "setRule 1 1", "setRule 2 2", "setRule 3 3", "setRule 4 4", "setRule 5 5", "rounds",
        "since 0 1", "since 1 1", "since 2 1", "since 3 1", "since 4 1", "since 5 1",
        "since 0 0", "since 1 0", "since 2 0", "since 3 0", "since 4 0", "since 5 0",
    };

    private static final Set<String> followed = new HashSet<>();
    private static final Set<String> followedRefused = new HashSet<>();
    private static final Set<String> refused = new HashSet<>();
    private static final Set<String> lastCalls = new HashSet<>();
    private static final Set<String> roundsSeen = new HashSet<>();
    private static int wrong = 0;

    public static void main(String[] args) {
        for (int pair = 0; pair < PAIRS && wrong < MOST_WRONG; pair++) {
            Run one = new Run(2 * pair);
            Run other = new Run(2 * pair + 1);
            for (int call = 1; call <= CALLS && wrong < MOST_WRONG; call++) {
                one.call(call);
                other.call(call);
            }
            if (wrong == 0) {
                one.requireAll();
                other.requireAll();
            }
        }
        // Runs that were broken off for wrong answers cannot have it all.
        if (wrong == 0) {
            requireAll();
        }
        System.out.println("LongRunsTest: " + 2 * PAIRS + " runs of " + CALLS + " calls, " + wrong + " wrong");
        if (wrong != 0) {
            System.exit(1);
        }
    }

    private static void fail(String what) {
        wrong++;
        System.out.println(what);
    }

    private static void require(boolean isSo, String what) {
        if (!isSo) {
            fail("the runs do not test that " + what);
        }
    }

    /** What the runs must have between them. */
    private static void requireAll() {
        for (int rounds = 0; rounds <= MOST_ROUNDS; rounds++) {
            require(roundsSeen.contains("rounds " + rounds), "rounds answers " + rounds);
            require(roundsSeen.contains("since " + rounds), "since answers " + rounds);
        }
        for (String method : METHODS) {
            require(lastCalls.contains(method), method + " is answered in the last call");
            for (String exception : Calls.exceptions(method)) {
                require(refused.contains(method + " " + exception), method + " throws " + exception);
            }
            for (String next : METHODS) {
                require(followed.contains(method + " " + next), next + " is answered after " + method);
                if (!Calls.exceptions(method).isEmpty()) {
                    require(followedRefused.contains(method + " " + next), next + " is answered after a refused "
                            + method);
                }
            }
        }
    }

    private static final class Run {
        private final int number;
        private final Random random;
        private final Model model = new Model();
        private final RumourReasoner reasoner = new RumourReasoner();
        private final int makersShare;
        // So many runs that each method is the last call of some of them.
        private final String lastMethod;
        private final boolean startsWithRing;
        private final List<String> bag = new ArrayList<>();
        private final Map<String, Integer> answered = new HashMap<>();
        private int refusals = 0;
        private String before = "";
        private boolean wasRefused = false;

        Run(int number) {
            this.number = number;
            random = new Random(7654321L * number + 3);
            // Some runs have all 40 formulas soon, others late.
            makersShare = 3 + random.nextInt(10);
            lastMethod = METHODS.get(number % METHODS.size());
            startsWithRing = number % 4 == 0;
        }

        void call(int call) {
            if (startsWithRing && call <= RING.length) {
                String[] words = RING[call - 1].split(" ");
                make(call, words[0], Stream.of(words).skip(1).mapToInt(Integer::parseInt).toArray());
                return;
            }
            if (call == CALLS) {
                make(call, lastMethod, false);
                return;
            }
            boolean isWrong = random.nextInt(3) == 0;
            String method = isWrong ? refusable() : next();
            // A run that ends with a new formula keeps room for it.
            boolean isLastRoom = MAKERS.contains(lastMethod) && model.count() == 39;
            make(call, method, isWrong || (isLastRoom && MAKERS.contains(method)));
        }

        private String refusable() {
            String method = METHODS.get(random.nextInt(METHODS.size()));
            while (!Calls.canHaveWrongArguments(method)) {
                method = METHODS.get(random.nextInt(METHODS.size()));
            }
            return method;
        }

        /** All methods in some order, then all in another one, and so on; some twice; and more that make formulas. */
        private String next() {
            if (random.nextInt(12) == 0 && !before.isEmpty()) {
                return before;
            }
            if (random.nextInt(makersShare) == 0) {
                return MAKERS.get(random.nextInt(MAKERS.size()));
            }
            if (bag.isEmpty()) {
                bag.addAll(METHODS);
                Collections.shuffle(bag, random);
            }
            return bag.remove(bag.size() - 1);
        }

        private void make(int call, String method, boolean isWrong) {
            make(call, method, isWrong ? Calls.wrong(method, model, random) : Calls.good(method, model, random));
        }

        private void make(int call, String method, int[] a) {
            String due = model.due(method, a);
            String got = Calls.answer(reasoner, method, a);
            if (!got.equals(due)) {
                fail("run " + number + ", call " + call + ": " + method + Arrays.toString(a) + " answered " + got
                        + ", due is " + due);
            }
            note(call, method, due);
        }

        private void note(int call, String method, String due) {
            boolean isRefused = due.endsWith("Exception");
            if (isRefused) {
                refusals++;
                refused.add(method + " " + due);
            } else {
                answered.merge(method, 1, Integer::sum);
                if (method.equals("rounds") || method.equals("since")) {
                    roundsSeen.add(method + " " + due);
                }
                (wasRefused ? followedRefused : followed).add(before + " " + method);
                if (call == CALLS) {
                    lastCalls.add(method);
                }
            }
            before = method;
            wasRefused = isRefused;
        }

        /** What each run must have. */
        void requireAll() {
            for (String method : METHODS) {
                require(answered.getOrDefault(method, 0) >= LEAST_ANSWERED,
                        method + " is answered " + LEAST_ANSWERED + " times in run " + number);
            }
            require(refusals >= LEAST_REFUSED, LEAST_REFUSED + " calls are refused in run " + number);
        }
    }
}
