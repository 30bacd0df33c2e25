import java.lang.annotation.ElementType;
import java.lang.annotation.Retention;
import java.lang.annotation.RetentionPolicy;
import java.lang.annotation.Target;

/** Which sentence of the document a test is about, and the promise in which it shows. */
@Retention(RetentionPolicy.RUNTIME)
@Target(ElementType.METHOD)
@interface About {
    int promise();

    /** As the document has it; of a long sentence only the part that the test would find broken. */
    String sentence();
}
