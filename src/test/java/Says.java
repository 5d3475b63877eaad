import java.lang.annotation.Retention;
import java.lang.annotation.RetentionPolicy;

/** The sentence of the document that a test is about: where it stands, and its words. */
@Retention(RetentionPolicy.RUNTIME)
@interface Says {
    String in();

    String value();
}
