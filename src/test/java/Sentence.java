import java.lang.annotation.ElementType;
import java.lang.annotation.Retention;
import java.lang.annotation.RetentionPolicy;
import java.lang.annotation.Target;

/** Says of a test which promise it is of, and the words of the document that would be broken if it failed. */
@Retention(RetentionPolicy.RUNTIME)
@Target(ElementType.METHOD)
@interface Sentence {
  /** The promise; several where a sentence of 'Terms' stands under several of them. */
  int[] of();

  /** As they stand in the promise's own section, else in 'Terms'. */
  String[] says();
}
