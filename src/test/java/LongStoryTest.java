import java.util.ArrayList;
import java.util.List;
import java.util.function.Supplier;

/**
 * One object, 512 calls, each answer written by hand: the same story six times, with calls of every method, refused
 * calls between them, and everything but the formulas taken back at its end; so its answers are the same each time,
 * until the object has its 40 formulas in the sixth.
 */
public final class LongStoryTest {
    private static final Class<? extends RuntimeException> INDEX = IndexOutOfBoundsException.class;
    private static final Class<? extends RuntimeException> ARGUMENT = IllegalArgumentException.class;
    private static final Class<? extends RuntimeException> STATE = IllegalStateException.class;
    private static final int CALLS = 512;
    private static final int TIMES = 6;
    // The formulas 0 to 5 are the atoms.
    private static final int BOTH = 6;
    private static final int NOT_0 = 7;
    private static final int AND_0_1 = 8;
    private static final int OR_0_NOT_0 = 9;
    private static final int OPEN_0 = 10;
    private static final int IF_0_1 = 11;

    private static final RumourReasoner x = new RumourReasoner();
    private static final List<Integer> kinds = new ArrayList<>();
    private static int calls = 0;
    private static int wrong = 0;

    public static void main(String[] args) {
        emptyObject();
        firstFormulas();
        for (int time = 1; time <= TIMES; time++) {
            reportsAndRules();
            sources();
            logics();
            moreFormulas();
            takeBack();
        }
        lastCalls();
        if (calls != CALLS) {
            wrong++;
            System.out.println("the story has " + calls + " calls, not " + CALLS);
        }
        System.out.println("LongStoryTest: " + calls + " calls, " + wrong + " wrong");
        if (wrong != 0) {
            System.exit(1);
        }
    }

    private static void due(Object want, Supplier<Object> call) {
        calls++;
        Object got;
        try {
            got = call.get();
        } catch (RuntimeException e) {
            got = e.getClass();
        }
        if (!got.equals(want)) {
            wrong++;
            System.out.println("call " + calls + " answered " + got + ", due is " + want);
        }
    }

    private static void makes(int kind, Supplier<Object> call) {
        boolean hasRoom = kinds.size() < 40;
        due(hasRoom ? kinds.size() : STATE, call);
        if (hasRoom) {
            kinds.add(kind);
        }
    }

    private static void emptyObject() {
        due(0, () -> x.formulaCount());
        due(INDEX, () -> x.isSteady(0));
        due(INDEX, () -> x.setRule(0, 0));
        due(INDEX, () -> x.turn(2, 0));
    }

    private static void firstFormulas() {
        makes(0, () -> x.atom(0));
        makes(0, () -> x.atom(1));
        makes(0, () -> x.atom(2));
        makes(0, () -> x.atom(3));
        makes(0, () -> x.atom(4));
        due(INDEX, () -> x.atom(6));
        makes(0, () -> x.atom(5));
        makes(1, () -> x.constant(3));
        makes(2, () -> x.turn(2, 0));
        due(ARGUMENT, () -> x.join(2, 0, 1));
        makes(3, () -> x.join(3, 0, 1));
        makes(4, () -> x.join(4, 0, NOT_0));
        due(INDEX, () -> x.turn(8, 10));
        makes(8, () -> x.turn(8, 0));
        makes(7, () -> x.join(7, 0, 1));
    }

    /** Source 0 says that atom 0 is true, source 1 that it is false; atom 1 follows it, atom 2 says the opposite. */
    private static void reportsAndRules() {
        due(0, () -> x.report(0, 0, 1));
        due(0, () -> x.report(1, 0, 2));
        due(INDEX, () -> x.report(6, 0, 1));
        due(ARGUMENT, () -> x.report(0, 0, 4));
        due(-1, () -> x.setRule(1, 0));
        due(-1, () -> x.setRule(2, NOT_0));
        due(false, () -> x.isSteady(OPEN_0));
        due(ARGUMENT, () -> x.setRule(2, OPEN_0));
        due(3, () -> x.given(0));
        due(0, () -> x.given(1));
        due(3, () -> x.settled(1));
        due(3, () -> x.settled(2));
        due(INDEX, () -> x.settled(-1));
        due(1, () -> x.rounds());
        due(1, () -> x.since(1, true));
        due(0, () -> x.since(0, false));
        due(-1, () -> x.since(3, true));
        due(INDEX, () -> x.since(6, true));
        due(3, () -> x.value(AND_0_1));
        due(3, () -> x.value(IF_0_1));
        due(0, () -> x.value(OPEN_0));
        due(INDEX, () -> x.value(40));
        due(7, () -> x.conflicts());
        due(56, () -> x.gaps());
        due(1.0, () -> x.discord());
        due(0, () -> x.report(2, 3, 1));
        due(0.75, () -> x.discord());
    }

    private static void sources() {
        due(63, () -> x.heard());
        due(1, () -> x.sayers(0, true));
        due(2, () -> x.sayers(0, false));
        due(1, () -> x.silence());
        due(50, () -> x.setTrust(0, 80));
        due(ARGUMENT, () -> x.setTrust(0, 101));
        due(2, () -> x.silence());
        due(1, () -> x.setLeastTrust(60));
        due(ARGUMENT, () -> x.setLeastTrust(0));
        due(1, () -> x.heard());
        due(1, () -> x.settled(1));
        due(2, () -> x.settled(2));
        due(1, () -> x.contradicted(1));
        due(0, () -> x.contradicted(0));
        due(true, () -> x.matters(0, 2));
        due(false, () -> x.matters(1, 0));
        due(INDEX, () -> x.matters(0, 6));
        due(false, () -> x.let(0, false));
        due(INDEX, () -> x.let(6, true));
        due(63, () -> x.gaps());
        due(0.0, () -> x.discord());
        due(true, () -> x.let(0, true));
    }

    private static void logics() {
        due(true, () -> x.entails(AND_0_1, 0));
        due(256, () -> x.against(1, OR_0_NOT_0));
        due(15, () -> x.setLogic(6));
        due(ARGUMENT, () -> x.setLogic(16));
        due(64, () -> x.models(OR_0_NOT_0));
        due(2, () -> x.range(OR_0_NOT_0));
        due(-1, () -> x.against(1, OR_0_NOT_0));
        due(true, () -> x.areEqual(0, OPEN_0));
        due(6, () -> x.setLogic(15));
        due(false, () -> x.areEqual(0, OPEN_0));
        due(INDEX, () -> x.areEqual(0, -1));
        due(4096, () -> x.models(BOTH));
        due(false, () -> x.depends(BOTH, 0));
        due(INDEX, () -> x.depends(BOTH, 6));
        due(true, () -> x.depends(IF_0_1, 1));
        due(3, () -> x.valueAt(AND_0_1, 4095));
        due(ARGUMENT, () -> x.valueAt(AND_0_1, 4096));
    }

    private static void moreFormulas() {
        makes(0, () -> x.atom(5));
        makes(1, () -> x.constant(0));
        due(ARGUMENT, () -> x.constant(4));
        makes(2, () -> x.turn(2, IF_0_1));
        makes(5, () -> x.join(5, 0, 1));
        makes(6, () -> x.join(6, 0, OPEN_0));
        due(INDEX, () -> x.join(3, 0, 40));
        due(kinds.size(), () -> x.formulaCount());
    }

    private static void takeBack() {
        due(1, () -> x.report(0, 0, 0));
        due(2, () -> x.report(1, 0, 0));
        due(1, () -> x.report(2, 3, 0));
        due(80, () -> x.setTrust(0, 50));
        due(60, () -> x.setLeastTrust(1));
        due(0, () -> x.setRule(1, -1));
        due(NOT_0, () -> x.setRule(2, -1));
        due(firstDigest(), () -> x.digest());
    }

    /** The digest of an object that is as a new one, but for its formulas. */
    private static long firstDigest() {
        long d = 131;
        d = d * 31 + kinds.size();
        for (int kind : kinds) {
            d = d * 31 + kind;
        }
        d = d * 31 + 1;
        for (int source = 0; source < 6; source++) {
            d = (d * 31 + 50) * 31 + 1;
            for (int atom = 0; atom < 6; atom++) {
                d = d * 31;
            }
        }
        for (int atom = 0; atom < 6; atom++) {
            d = (d * 31 - 1) * 31 * 31;
        }
        return (d * 31) * 31 + 15;
    }

    private static void lastCalls() {
        due(40, () -> x.formulaCount());
    }
}
