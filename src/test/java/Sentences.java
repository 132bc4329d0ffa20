import java.util.ArrayList;
import java.util.List;

/**
 * The tests of the boundaries that a section of the document names. The name of each test is the sentence that it holds
 * the program to, in the words of the document (EverySentenceTest looks that they are).
 */
final class Sentences {
    interface Test {
        void run(Checks c);
    }

    final String section;
    final List<String> quotes = new ArrayList<>();
    private final String name;
    private final List<Test> tests = new ArrayList<>();

    private Sentences(String section, String name) {
        this.section = section;
        this.name = name;
    }

    /** What the section of this promise says. */
    static Sentences ofPromise(int promise) {
        return new Sentences("Promise " + promise, "Promise " + promise);
    }

    /** What another section says of what these promises do. */
    static Sentences ofSection(String section, String promises) {
        return new Sentences(section, promises + " (" + section + ")");
    }

    void test(String sentence, Test test) {
        quotes.add(sentence);
        tests.add(test);
    }

    void run() {
        int wrong = 0;
        for (int k = 0; k < tests.size(); k++) {
            Checks c = new Checks(name + ", \"" + quotes.get(k) + "\": ");
            try {
                tests.get(k).run(c);
            } catch (RuntimeException e) {
                c.tell("a call that is to be taken threw " + e);
            }
            wrong += c.wrong();
        }
        System.out.println(name + ": " + tests.size() + " sentences, " + wrong + " answers not as due");
        if (wrong > 0) {
            System.exit(1);
        }
    }
}
