import java.lang.annotation.ElementType;
import java.lang.annotation.Retention;
import java.lang.annotation.RetentionPolicy;
import java.lang.annotation.Target;

/** Which words of the document a test holds: their section, and the words as they stand there. */
@Retention(RetentionPolicy.RUNTIME)
@Target(ElementType.METHOD)
@interface Holds {
    /** "Terms 1" .. "Terms 4", "Constants", or "Promise 1" .. "Promise 31". */
    String in();

    String says();
}
