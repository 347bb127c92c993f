import java.lang.annotation.ElementType;
import java.lang.annotation.Retention;
import java.lang.annotation.RetentionPolicy;
import java.lang.annotation.Target;

/** Marks a test: of which part of the document it is, and which sentence there it holds to. */
@Retention(RetentionPolicy.RUNTIME)
@Target(ElementType.METHOD)
@interface Holds {
    /** In place of a promise's number: the sentence stands in the section 'Terms'. */
    int TERMS = 0;
    /** In place of a promise's number: the sentence stands in the section 'What it is'. */
    int WHAT_IT_IS = -1;

    int of();

    String says();
}
