import java.util.function.ToLongFunction;

/** One call as it was made: how it reads, and how it is made again on another object. */
record Call(String text, ToLongFunction<RentSizes> made) {
    static Call of(ToLongFunction<RentSizes> made, String name, long... arguments) {
        StringBuilder all = new StringBuilder();
        for (long argument : arguments) {
            all.append(all.length() == 0 ? "" : ", ").append(argument);
        }
        return new Call(name + "(" + all + ")", made);
    }

    /** What exact() throws is looked at when the call is first made; here only the object behind it counts. */
    void again(RentSizes x) {
        try {
            made.applyAsLong(x);
        } catch (ArithmeticException thrown) {
            return;
        }
    }
}
