import java.lang.annotation.Retention;
import java.lang.annotation.RetentionPolicy;

/** The sentence of the document that a test holds the class to, as it stands there; 0 is all ahead of promise 1. */
@Retention(RetentionPolicy.RUNTIME)
@interface Sentence {
    int of();

    String says();
}
