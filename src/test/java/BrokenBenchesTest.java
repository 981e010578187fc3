import java.util.List;

/**
 * The tests of the sentences, tested: each passes on the model, and each fails on every bench in which
 * its sentence is broken.
 */
public final class BrokenBenchesTest {
    public static void main(String[] args) {
        Due due = new Due();
        for (Sentence sentence : Sentences.all()) {
            List<String> wrong = Trial.wrongIn(sentence, Model::new);
            due.holds(sentence.name() + " on the model: " + wrong, wrong.isEmpty());
            due.holds(sentence.name() + " has a bench that breaks it", !sentence.broken().isEmpty());
            for (int k = 0; k < sentence.broken().size(); k++) {
                due.holds(sentence.name() + " fails on broken bench " + (k + 1),
                    !Trial.wrongIn(sentence, sentence.broken().get(k)).isEmpty());
            }
        }
        due.end();
    }
}
