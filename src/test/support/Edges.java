import java.nio.file.Files;
import java.nio.file.Path;
import java.util.ArrayList;
import java.util.LinkedHashMap;
import java.util.List;
import java.util.Map;

/**
 * What the tests of the document's boundary cases share: the sentence that is being tested, objects to test it on, and
 * checks. Each check works on objects of its own, so that none is used for more than the document's 512 calls.
 */
final class Edges {
    interface Maker {
        RumourReasoner make();
    }

    interface Call {
        Object on(RumourReasoner x);
    }

    interface CallWith {
        Object on(RumourReasoner x, int number);
    }

    static final Class<? extends RuntimeException> INDEX = IndexOutOfBoundsException.class;
    static final Class<? extends RuntimeException> ARGUMENT = IllegalArgumentException.class;
    static final Class<? extends RuntimeException> STATE = IllegalStateException.class;
    static final int LEAST = Integer.MIN_VALUE;
    static final int GREATEST = Integer.MAX_VALUE;
    static final int NONE = 0;
    static final int TRUE = 1;
    static final int FALSE = 2;
    static final int BOTH = 3;
    static final int[] NOT_SIX = {-1, 6, -2, 7, 32, -32, 64, LEAST, LEAST + 1, GREATEST};
    static final int[] NOT_VALUES = {-1, 4, -4, 5, 7, 16, LEAST, LEAST + 1, GREATEST};
    static final int[] NOT_TRUSTS = {0, 101, -1, -50, 102, 150, LEAST, LEAST + 1, GREATEST};
    // The first formulas of busy().
    static final int NOT_0 = 7;
    static final int OPEN_1 = 8;
    static final int IF_4 = 13;
    static final int BUSY_COUNT = 14;

    private static final Map<String, List<String>> quotes = new LinkedHashMap<>();
    private static String section = "";
    private static String sentence = "";
    private static int checks = 0;
    private static int allChecks = 0;
    private static int wrong = 0;

    private Edges() {
    }

    // ---- sentences

    /** From here on, the checks are those of this sentence of the document, which must stand there word by word. */
    static void sentence(String inSection, String text) {
        endSentence();
        section = inSection;
        sentence = text;
        checks = 0;
        quotes.computeIfAbsent(inSection, name -> new ArrayList<>()).add(text);
    }

    private static void endSentence() {
        if (!sentence.isEmpty() && checks == 0) {
            fail("no check at all");
        }
    }

    private static void fail(String what) {
        wrong++;
        System.out.println(section + " (\"" + sentence + "\"): " + what);
    }

    /** Compares the quoted sentences with the document, tells how the test ended, and ends the program if it failed. */
    static void end(String test, String[] args, String... wholeSections) throws Exception {
        endSentence();
        Path root = Path.of(args.length > 0 ? args[0] : ".");
        Map<String, String> document = sections(root.resolve("../shared/DOC.md"));
        for (String name : quotes.keySet()) {
            section = name;
            String left = document.getOrDefault(name, "");
            for (String quote : quotes.get(name)) {
                sentence = quote;
                if (!document.getOrDefault(name, "").contains(quote)) {
                    fail("the document has no such sentence");
                }
                left = left.replace(quote, "");
            }
            document.put(name, left);
        }
        for (String name : wholeSections) {
            section = name;
            sentence = document.getOrDefault(name, "no such section").strip();
            if (!sentence.isEmpty()) {
                fail("no test of this");
            }
        }
        System.out.println(test + ": " + allChecks + " checks, " + wrong + " wrong");
        if (wrong != 0) {
            System.exit(1);
        }
    }

    /** The sections by their names ("Description", "Promise 2"), without signatures and parameters without bounds. */
    private static Map<String, String> sections(Path file) throws Exception {
        Map<String, String> all = new LinkedHashMap<>();
        String name = "";
        for (String line : Files.readAllLines(file)) {
            if (line.startsWith("## ")) {
                name = line.substring(3).replaceAll("(Promise \\d+):.*", "$1");
            } else if (!isSkipped(line)) {
                all.merge(name, line.replace("`", "") + "\n", String::concat);
            }
        }
        return all;
    }

    private static boolean isSkipped(String line) {
        boolean isParameter = line.startsWith("- `");
        boolean hasBound = line.matches(".*\\d.*");
        return line.startsWith("`") || line.startsWith("----") || (isParameter && !hasBound);
    }

    // ---- objects

    static RumourReasoner fresh() {
        return new RumourReasoner();
    }

    static RumourReasoner withAtoms() {
        return withFormulas(6);
    }

    /** The first 6 are the atoms, and each later one is the same as that 6 before it. */
    static RumourReasoner withFormulas(int count) {
        RumourReasoner x = new RumourReasoner();
        for (int f = 0; f < count; f++) {
            x.atom(f % 6);
        }
        return x;
    }

    /** An object in which nothing is as in a new one, and which has a formula of each kind. */
    static RumourReasoner busy() {
        RumourReasoner x = withAtoms();
        x.constant(BOTH);
        x.turn(2, 0);
        x.turn(8, 1);
        for (int kind = 3; kind <= 7; kind++) {
            x.join(kind, kind - 3, NOT_0);
        }
        for (int source = 0; source < 6; source++) {
            for (int p = 0; p < 6; p++) {
                x.report(source, p, (5 * source + 3 * p + source * p) % 4);
            }
            x.setTrust(source, 20 + 13 * source);
        }
        x.report(0, 0, TRUE);
        x.setLeastTrust(30);
        x.let(4, false);
        x.setRule(0, 10);
        x.setRule(2, 12);
        x.setRule(5, NOT_0);
        x.setLogic(11);
        return x;
    }

    static RumourReasoner full() {
        RumourReasoner x = busy();
        for (int f = x.formulaCount(); f < 40; f++) {
            x.turn(2, f - 5);
        }
        return x;
    }

    /** TRUE goes from atom 0 to 5, a round each; NOT the atom "back" (none if it is -1) follows, a round later. */
    static RumourReasoner ring(int back) {
        RumourReasoner x = withAtoms();
        for (int p = 1; p < 6; p++) {
            x.setRule(p, p - 1);
        }
        int start = x.constant(TRUE);
        x.setRule(0, back < 0 ? start : x.join(6, start, x.turn(2, back)));
        return x;
    }

    /** What can be seen of an object in some 300 calls. */
    static String view(RumourReasoner x) {
        StringBuilder text = new StringBuilder();
        int count = x.formulaCount();
        text.append(x.digest()).append(' ').append(count).append(' ').append(x.heard());
        for (int f = 0; f < count; f++) {
            text.append(' ').append(x.isSteady(f)).append(x.models(f)).append(',').append(x.range(f));
            text.append(',').append(x.value(f));
            for (int k = 1; k <= 3; k++) {
                text.append(',').append(x.valueAt(f, (1021 * k + 97 * f) % 4096));
            }
        }
        return text.toString();
    }

    // ---- checks

    static void due(String what, Object got, Object want) {
        checks++;
        allChecks++;
        if (!got.equals(want)) {
            fail(what + " answered " + got + ", due is " + want);
        }
    }

    /** The answer of the call, or the name of what it throws. */
    static Object answer(RumourReasoner x, Call call) {
        try {
            return call.on(x);
        } catch (RuntimeException e) {
            return e.getClass().getName();
        }
    }

    /** The call throws just this exception, and its object looks like one on which it was not made. */
    static void refused(Maker maker, Class<? extends RuntimeException> want, String what, Call call) {
        RumourReasoner x = maker.make();
        due(what + " throws", answer(x, call), want.getName());
        due("what is seen after " + what, view(x), view(maker.make()));
    }

    static void refusedEach(Maker maker, Class<? extends RuntimeException> want, int[] numbers, CallWith call) {
        for (int number : numbers) {
            refused(maker, want, "with " + number, x -> call.on(x, number));
        }
    }

    static void taken(Maker maker, String what, Call call) {
        Object got = answer(maker.make(), call);
        due(what + " is taken", got instanceof String, false);
    }

    static void takenEach(Maker maker, int from, int to, CallWith call) {
        for (int number = from; number <= to; number++) {
            int taken = number;
            taken(maker, "with " + number, x -> call.on(x, taken));
        }
    }

    /** Only the formulas that there are can be asked for: with none, with one, with some, with all that can be. */
    static void formulasOnly(CallWith call) {
        for (int count : new int[] {0, 1, 2, 39, 40}) {
            Maker maker = () -> withFormulas(count);
            takenEach(maker, 0, count - 1, call);
            refusedEach(maker, INDEX, notFormulas(count), call);
        }
        refused(Edges::busy, INDEX, "with " + BUSY_COUNT, x -> call.on(x, BUSY_COUNT));
        refused(Edges::full, INDEX, "with 40", x -> call.on(x, 40));
    }

    /** The same for calls that make one more formula, which an object with 40 does not take. */
    static void partsOnly(CallWith call) {
        for (int count : new int[] {0, 1, 2, 39}) {
            Maker maker = () -> withFormulas(count);
            takenEach(maker, 0, count - 1, call);
            refusedEach(maker, INDEX, notFormulas(count), call);
        }
        refusedEach(Edges::busy, INDEX, notFormulas(BUSY_COUNT), call);
        refusedEach(Edges::full, INDEX, notFormulas(40), call);
    }

    /** No formulas' numbers; times 64 some of them wrap around to one that would be. */
    static int[] notFormulas(int count) {
        return new int[] {
            count, count + 1, 40, 41, 64, -1, -2, -40, 1 << 25, 1 << 26, 1 << 27, -(1 << 26), LEAST, LEAST + 1, GREATEST
        };
    }

    // ---- valuations

    static int placeOf(int atom) {
        int place = 1;
        for (int k = atom; k < 5; k++) {
            place *= 4;
        }
        return place;
    }

    /** The valuation that gives the value to each atom: 0, 1365, 2730 or 4095. */
    static int allOf(int value) {
        return 1365 * value;
    }

    static int valuation(int... values) {
        int number = 0;
        for (int value : values) {
            number = 4 * number + value;
        }
        return number;
    }
}
