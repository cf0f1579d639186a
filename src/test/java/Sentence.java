import java.lang.annotation.ElementType;
import java.lang.annotation.Retention;
import java.lang.annotation.RetentionPolicy;
import java.lang.annotation.Target;

/** The document's own words that a test is for; BoundaryTest looks whether they stand there. */
@Retention(RetentionPolicy.RUNTIME)
@Target(ElementType.METHOD)
@interface Sentence {
    /** The heading, up to its colon: "Terms", "Promise 7". */
    String of();

    /** The words as they stand there, but for line ends. */
    String says();
}
