import java.lang.annotation.ElementType;
import java.lang.annotation.Retention;
import java.lang.annotation.RetentionPolicy;
import java.lang.annotation.Target;

/**
 * A test of one sentence of the document: of which part (What it is, Terms, Terms 1 to 5, Promise 1 to 42), and the
 * words, as they stand there. SentencesTest looks that they do, and that no words of the document go without a test.
 */
@Retention(RetentionPolicy.RUNTIME)
@Target(ElementType.METHOD)
@interface Sentence {
    String of();

    String words();
}
