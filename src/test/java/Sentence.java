import java.lang.annotation.ElementType;
import java.lang.annotation.Retention;
import java.lang.annotation.RetentionPolicy;
import java.lang.annotation.Target;

/**
 * The words of the document that a test is about, one text for each place of the same section. Where they stand is told
 * by the beginning of the test's name: "p07_.." for promise 7, "what_.." for "What it is", "terms_..", "settings_..",
 * "segments_.." and "texts_..".
 */
@Retention(RetentionPolicy.RUNTIME)
@Target(ElementType.METHOD)
@interface Sentence {
    String[] value();
}
