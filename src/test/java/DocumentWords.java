import java.io.IOException;
import java.nio.file.Files;
import java.nio.file.Path;
import java.util.ArrayList;
import java.util.Arrays;
import java.util.List;
import java.util.regex.Matcher;
import java.util.regex.Pattern;

/** Compares the sentences that the tests name with those that the document has. */
final class DocumentWords {
    private static final Pattern SECTION = Pattern.compile("(?ms)^## (.*?)\n(.*?)(?=^## |\\z)");
    private static final Pattern PROMISE = Pattern.compile("Promise (\\d+): .*");
    /** A sentence ends with one dot, not with the two of '1 .. 7'. */
    private static final Pattern SENTENCE_END = Pattern.compile("(?<=[^.\\s]\\.|\\.\\))\\s+");
    private static final int TERMS = 0;

    private final String document;

    private DocumentWords(String document) {
        this.document = document;
    }

    static void compare(Path path) throws IOException {
        if (!Files.isRegularFile(path)) {
            System.out.println("the sentences are not compared: there is no " + path);
            return;
        }
        DocumentWords words = new DocumentWords(Files.readString(path));
        words.needsNamesFromTheDocument();
        words.needsTestsForAll();
    }

    private void needsNamesFromTheDocument() {
        for (Sentences.Named named : Sentences.named()) {
            Check.same("the document has the words of " + named, document.contains(named.words) ? 1 : 0, 1);
        }
    }

    private void needsTestsForAll() {
        Matcher m = SECTION.matcher(document);
        while (m.find()) {
            Matcher promise = PROMISE.matcher(m.group(1));
            if (promise.matches()) {
                needsTests(Integer.parseInt(promise.group(1)), m.group(2));
            } else if (m.group(1).equals("Terms")) {
                needsTests(TERMS, m.group(2));
            }
        }
    }

    private static void needsTests(int promise, String section) {
        for (String sentence : sentences(section)) {
            Check.tell("words without a test, promise " + promise, wordsWithoutTest(promise, sentence), "");
        }
    }

    private static List<String> sentences(String section) {
        List<String> all = new ArrayList<>();
        // The face of a call stands before its promise, between backquotes.
        for (String paragraph : section.replaceAll("`[^`]*`: ", "").split("\n\n")) {
            for (String sentence : SENTENCE_END.split(paragraph.strip())) {
                if (!sentence.isEmpty()) {
                    all.add(sentence);
                }
            }
        }
        return all;
    }

    /** What is left of a sentence without all that is named of it; Terms may be named for any. */
    private static String wordsWithoutTest(int promise, String sentence) {
        boolean[] named = new boolean[sentence.length()];
        for (Sentences.Named name : Sentences.named()) {
            int at = sentence.indexOf(name.words);
            if (at >= 0 && (promise == TERMS || promise == name.promise)) {
                Arrays.fill(named, at, at + name.words.length(), true);
            }
        }
        StringBuilder left = new StringBuilder();
        for (int i = 0; i < named.length; i++) {
            if (!named[i] && Character.isLetterOrDigit(sentence.charAt(i))) {
                left.append(sentence.charAt(i));
            }
        }
        return left.toString();
    }
}
