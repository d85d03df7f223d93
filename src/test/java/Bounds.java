import java.util.TreeSet;

/** What the tests by sentences share: each begins with the words of the document that it holds the class to. */
final class Bounds {
    private static final TreeSet<Integer> PROMISES = new TreeSet<>();
    private static Document document;
    private static int sentences;

    private Bounds() {
    }

    static void begin(Document read) {
        document = read;
    }

    /** The words stand in the section of the promise or in the Terms; a wrong answer is told with both. */
    static void sentence(int promise, String words) {
        Kit.part("promise " + promise + ", \"" + words + "\"");
        Kit.due("the sentence stands in the document", document.quote(promise, words), true);
        PROMISES.add(promise);
        sentences++;
    }

    /** Every promise has a test, and every word of the Terms and of the promises stands in one. */
    static void areAll() {
        System.out.println(sentences + " sentences, each with a test");
        Kit.part("the document");
        Kit.due("promises with tests", PROMISES.size(), document.promises());
        for (String piece : document.unquoted()) {
            Kit.due("without a test: " + piece, false, true);
        }
    }
}
