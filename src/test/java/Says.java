import java.lang.annotation.ElementType;
import java.lang.annotation.Retention;
import java.lang.annotation.RetentionPolicy;
import java.lang.annotation.Target;

/** The words of the document whose edge a test is for: with them broken, it fails. */
@Retention(RetentionPolicy.RUNTIME)
@Target(ElementType.METHOD)
@interface Says {
    /** Where they stand: "Terms 3" is the third part of the terms, "Promise 12" that promise. */
    String at();

    String words();
}
