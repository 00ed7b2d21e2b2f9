import java.lang.annotation.Retention;
import java.lang.annotation.RetentionPolicy;

/** The words of the document that a test is for, and the promise that they are about. */
@Retention(RetentionPolicy.RUNTIME)
@interface Sentence {
    int promise();

    String words();
}
