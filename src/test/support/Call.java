import java.util.function.ToLongFunction;

/** A call by its name with the answer that is due, so that a test can keep rows of them. */
public record Call(String name, ToLongFunction<HandLine> made, long due) {
}
