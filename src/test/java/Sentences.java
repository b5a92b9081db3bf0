import java.io.IOException;
import java.nio.file.Files;
import java.nio.file.Path;
import java.util.Set;
import java.util.TreeSet;
import java.util.function.IntUnaryOperator;

/**
 * Holds answers against sentences of the document: what is not as due is printed with the promise
 * and the sentence that it breaks. A sentence that the document does not have is a failure, too.
 */
final class Sentences {
    private static final int[] NUMBERS = numbers();
    private final String test;
    private final String document;
    private final Set<Integer> promises = new TreeSet<>();
    private String held = "no sentence";
    private int asked = 0;
    private int wrong = 0;

    /** The second argument of a test is the document's path. */
    Sentences(String test, String[] args) throws IOException {
        this.test = test;
        document = args.length > 1 ? onOneLine(Files.readString(Path.of(args[1]))) : null;
    }

    /** What is asked from here on holds this sentence of the document, for this promise. */
    void at(int promise, String sentence) {
        promises.add(promise);
        held = "promise " + promise + ", \"" + sentence + "\"";
        if (document != null && !document.contains(onOneLine(sentence))) {
            tell("the document does not say so");
        }
    }

    void is(String call, int got, int want) {
        asked++;
        if (got != want) {
            tell(call + " answered " + got + ", due is " + want);
        }
    }

    /** An argument is taken from least to most, and BAD everywhere else. */
    void taken(String argument, int least, int most, IntUnaryOperator call) {
        for (int n : NUMBERS) {
            int got = call.applyAsInt(n);
            boolean isTaken = n >= least && n <= most;
            is(argument + " = " + n + ", which is " + (isTaken ? "taken" : "BAD"),
                    got == AccessJudge.BAD ? 0 : 1, isTaken ? 1 : 0);
        }
    }

    /** An argument plays no part: each number is answered alike. */
    void free(String argument, int want, IntUnaryOperator call) {
        for (int n : NUMBERS) {
            is(argument + " = " + n + ", which plays no part", call.applyAsInt(n), want);
        }
    }

    void end(int... wantedPromises) {
        for (int p : wantedPromises) {
            if (!promises.contains(p)) {
                held = "promise " + p;
                tell("no sentence of it was held");
            }
        }
        System.out.println(test + ": " + asked + " answers, " + wrong + " not as due");
        if (wrong != 0) {
            System.exit(1);
        }
    }

    private void tell(String what) {
        wrong++;
        System.out.println(test + ": " + held + ": " + what);
    }

    private static String onOneLine(String text) {
        return text.replaceAll("\\s+", " ");
    }

    // All near 0 and the document's limits, those that a shift or a narrower number would take
    // for a smaller one, and the ends of int.
    private static int[] numbers() {
        Set<Integer> all = new TreeSet<>();
        for (int n = -135; n <= 135; n++) {
            all.add(n);
        }
        for (int bits = 8; bits <= 31; bits++) {
            int n = bits == 31 ? Integer.MIN_VALUE : 1 << bits;
            for (int near : new int[] {-1, 0, 1, 3}) {
                all.add(n + near);
                all.add(-n + near);
            }
        }
        return all.stream().mapToInt(Integer::intValue).toArray();
    }
}
