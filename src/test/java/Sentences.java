import java.util.ArrayList;
import java.util.List;

/** Runs the tests that stand for one sentence of the document each, and keeps what they name. */
final class Sentences {
    interface Test {
        void run();
    }

    /** The words of the document that a test stands for, and the promise that it tests them for. */
    static final class Named {
        final int promise;
        final String words;

        Named(int promise, String words) {
            this.promise = promise;
            this.words = words;
        }

        @Override
        public String toString() {
            return "promise " + promise + ", \"" + words + "\"";
        }
    }

    private static final List<Named> NAMED = new ArrayList<>();

    private Sentences() {
    }

    static List<Named> named() {
        return NAMED;
    }

    static void test(int promise, String words, Test test) {
        Named name = new Named(promise, words);
        NAMED.add(name);
        int right = Check.right();
        int wrong = Check.wrong();
        try {
            test.run();
        } catch (RuntimeException e) {
            Check.fault("the test was stopped by " + e);
        }
        if (Check.right() == right && Check.wrong() == wrong) {
            Check.fault("the test asks nothing");
        }
        if (Check.wrong() != wrong) {
            System.out.println("BROKEN: " + name);
        }
    }
}
