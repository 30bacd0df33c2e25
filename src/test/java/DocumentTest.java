import java.lang.reflect.Method;
import java.util.ArrayList;
import java.util.Arrays;
import java.util.List;

/** What tests quote stands in the document, and they quote every sentence of its terms and promises. */
public final class DocumentTest {
    private static final List<Class<?>> TESTS = List.of(
        EntryTest.class, TreeTest.class, RowTest.class, KindTest.class, RunTest.class, CountTest.class, RefusalTest.class);

    public static void main(String[] args) {
        List<About> abouts = new ArrayList<>();
        for (Class<?> tests : TESTS) {
            for (Method test : Sentences.testsOf(tests)) {
                abouts.add(test.getAnnotation(About.class));
            }
        }
        for (About about : abouts) {
            String quote = "promise " + about.promise() + ", \"" + about.sentence() + "\"";
            Check.equal(quote + " stands in the document", Document.says(about.promise(), about.sentence()), true);
        }
        Check.equal("terms without a test", rest(Document.terms(), sentences(abouts, 0)), "");
        for (int promise = 1; promise <= Document.PROMISES; promise++) {
            String rest = rest(Document.partOf(promise), sentences(abouts, promise));
            Check.equal("promise " + promise + ", sentences without a test", rest, "");
        }
        Check.end();
    }

    /** The sentences that tests of a promise quote, or of any (0). */
    private static List<String> sentences(List<About> abouts, int promise) {
        List<String> found = new ArrayList<>();
        for (About about : abouts) {
            if (promise == 0 || about.promise() == promise) {
                found.add(about.sentence());
            }
        }
        return found;
    }

    /** What no test quotes of a text. */
    private static String rest(String text, List<String> quotes) {
        char[] left = text.toCharArray();
        for (String quote : quotes) {
            for (int at = text.indexOf(quote); at >= 0; at = text.indexOf(quote, at + 1)) {
                Arrays.fill(left, at, at + quote.length(), ' ');
            }
        }
        return new String(left).trim();
    }
}
