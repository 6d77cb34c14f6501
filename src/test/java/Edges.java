import java.util.Set;
import java.util.TreeSet;
import java.util.function.Consumer;

/** Sentences of the document: each stands with a test of its own, on an object of its own. */
final class Edges {
    static final int NONE = -1, UNKNOWN = -1001, OUTSIDE = -1002, NOT = -1003, FULL = -1004, SPENT = -1005;
    /** Numbers far from any that there is, so that sums and differences of them wrap around. */
    static final int[] WILD = {Integer.MIN_VALUE, Integer.MIN_VALUE + 1, -1001, -2, 1 << 30, Integer.MAX_VALUE};

    private final Check check = new Check();
    private final Set<Integer> promises = new TreeSet<>();
    private int sentences;

    /** The words are those of the document; the promise is the one that they belong to. */
    void sentence(int promise, String words, Consumer<SmellHours> test) {
        int checks = check.checks();
        int wrong = check.wrong();
        test.accept(new SmellHours());
        promises.add(promise);
        sentences++;
        if (check.checks() == checks) {
            check.holds("a test of: " + words, false);
        }
        if (check.wrong() > wrong) {
            System.out.println("    so this of promise " + promise + " does not hold: " + words);
        }
    }

    void due(String call, long got, long want) {
        check.due(call, got, want);
    }

    /** Every promise of the part has a sentence. */
    void end(int first, int last) {
        for (int promise = first; promise <= last; promise++) {
            check.holds("a sentence of promise " + promise, promises.contains(promise));
        }
        System.out.print(sentences + " sentences, ");
        check.end();
    }
}
