import java.lang.annotation.ElementType;
import java.lang.annotation.Retention;
import java.lang.annotation.RetentionPolicy;
import java.lang.annotation.Target;

/** What a test holds the class to: it fails if these words of the document are broken. */
@Retention(RetentionPolicy.RUNTIME)
@Target(ElementType.METHOD)
@interface Sentence {
    /** 0: the document's "What it is" or "Terms". */
    int promise() default 0;

    /** The document's words; ".." stands for some that are left out. */
    String words();

    /** Which of the cases that the words cover, in our own words. */
    String here() default "";
}
