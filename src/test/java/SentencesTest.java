import java.io.IOException;
import java.nio.file.Path;

/** For each sentence of the document a test of its own, which names it and its promise. */
public final class SentencesTest {
    public static void main(String[] args) throws IOException {
        ObjectSentences.run();
        DateSentences.run();
        MoveSentences.run();
        HolidaySentences.run();
        WorkSentences.run();
        TextSentences.run();
        RefusalSentences.run();
        System.out.println(Sentences.named().size() + " sentences have a test");
        if (args.length > 0) {
            DocumentWords.compare(Path.of(args[0]));
        }
        Check.finish();
    }
}
