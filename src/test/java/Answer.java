import java.util.List;

/** What a call answered, to be held against what is due. */
final class Answer {
    private final List<Call> calls;
    private final int place;
    private final long got;
    private final boolean thrown;
    private boolean lookedAt;

    /** The newest of the calls is the one that answered; more may come behind it. */
    Answer(List<Call> calls, long got, boolean thrown) {
        this.calls = calls;
        this.place = calls.size() - 1;
        this.got = got;
        this.thrown = thrown;
    }

    long value() {
        lookedAt = true;
        return got;
    }

    void is(long want) {
        lookedAt = true;
        if (thrown) {
            Check.fault(told() + " threw, due is " + want);
        } else {
            Check.due(told(), got, want);
        }
    }

    /** The answer of a call that only tells. */
    void isAndChangesNothing(long want) {
        is(want);
        changesNothing();
    }

    void unknown() {
        isAndChangesNothing(-101);
    }

    void outside() {
        isAndChangesNothing(-102);
    }

    void state() {
        isAndChangesNothing(-103);
    }

    void proof() {
        isAndChangesNothing(-104);
    }

    void capped() {
        isAndChangesNothing(-105);
    }

    void lacks() {
        isAndChangesNothing(-106);
    }

    void room() {
        isAndChangesNothing(-107);
    }

    void none() {
        isAndChangesNothing(-109);
    }

    void throwsArithmetic() {
        lookedAt = true;
        Check.due(told() + " throws an ArithmeticException (1) or not (0)", thrown ? 1 : 0, 1);
        changesNothing();
    }

    /** A call whose answer no one looks at prepares what comes; refused, it would make that test empty. */
    void mustNotBeARefusalUnseen() {
        if (!lookedAt && (thrown || got < 0)) {
            Check.fault(told() + " was to prepare the test, but answered " + got);
        }
    }

    private void changesNothing() {
        Check.same("what stands after " + told(), Look.at(calls.subList(0, place + 1)), Look.at(calls.subList(0, place)));
    }

    private String told() {
        return calls.get(place).text();
    }
}
