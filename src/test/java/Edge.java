import java.lang.annotation.Retention;
import java.lang.annotation.RetentionPolicy;

/** Marks a test of one sentence of the document that names a boundary case. */
@Retention(RetentionPolicy.RUNTIME)
@interface Edge {
    /** The part of the document: "Promise n", "Section n", or another heading. */
    String of();

    /** Words of that part, as they stand there (without its backticks). */
    String says();
}
