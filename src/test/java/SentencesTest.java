import java.util.List;

/** Each sentence of the document that names a boundary case, tested on the class by a test of its own. */
public final class SentencesTest {
    public static void main(String[] args) {
        int broken = 0;
        List<Sentence> sentences = Sentences.all();
        for (Sentence sentence : sentences) {
            List<String> wrong = Trial.wrongIn(sentence, RealBench::new);
            System.out.println((wrong.isEmpty() ? "holds   " : "BROKEN  ") + sentence.name());
            for (String each : wrong) {
                System.out.println("        " + each);
            }
            broken += wrong.isEmpty() ? 0 : 1;
        }
        System.out.println((sentences.size() - broken) + " boundary cases hold, " + broken + " are broken");
        if (broken != 0) {
            System.exit(1);
        }
    }
}
