import java.util.List;
import java.util.function.Supplier;

/**
 * A sentence of the document that names a boundary case, with the test of that case.
 *
 * @param where the document's heading
 * @param words the sentence, or the part of it that names the case, as the document has it
 * @param edge which boundary of it is tested
 * @param broken makers of benches in which this sentence is broken: the test must fail on each
 */
record Sentence(String where, String words, String edge, Check check, List<Supplier<Bench>> broken) {
    interface Check {
        void on(Trial t);
    }

    String name() {
        return where + " | \"" + words + "\" | " + edge;
    }
}
