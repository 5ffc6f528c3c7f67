import java.lang.annotation.ElementType;
import java.lang.annotation.Retention;
import java.lang.annotation.RetentionPolicy;
import java.lang.annotation.Target;

/** The words of the document that a test holds the program to, and the part where they stand. */
@Retention(RetentionPolicy.RUNTIME)
@Target(ElementType.METHOD)
@interface Says {
    /** "Promise 6", "Terms 2" (a part of the terms), "Terms" (ahead of their parts) or "What it is". */
    String at();

    String[] words();
}
