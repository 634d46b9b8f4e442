import java.util.Arrays;

/** The class and the model side by side: each call goes to both, and the answers must agree. */
final class Both {
    private final Check check;
    private final String run;
    private final TombstoneText text = new TombstoneText();
    private final Model model = new Model();
    private int calls;

    Both(Check check, String run) {
        this.check = check;
        this.run = run;
    }

    int calls() {
        return calls;
    }

    int insert(int r, int position, char c) {
        return agree(text.insert(r, position, c), model.insert(r, position, c), "insert", r, position, c);
    }

    int erase(int r, int position) {
        return agree(text.erase(r, position), model.erase(r, position), "erase", r, position);
    }

    int deliver(int r, int operation) {
        return agree(text.deliver(r, operation), model.deliver(r, operation), "deliver", r, operation);
    }

    int sync(int r, int s) {
        return agree(text.sync(r, s), model.sync(r, s), "sync", r, s);
    }

    int collect(int r) {
        return agree(text.collect(r), model.collect(r), "collect", r);
    }

    int length(int r) {
        return agree(text.length(r), model.length(r), "length", r);
    }

    int at(int r, int position) {
        return agree(text.at(r, position), model.at(r, position), "at", r, position);
    }

    int position(int r, int operation) {
        return agree(text.position(r, operation), model.position(r, operation), "position", r, operation);
    }

    int same(int r, int s) {
        return agree(text.same(r, s) ? 1 : 0, model.same(r, s) ? 1 : 0, "same", r, s);
    }

    int operations() {
        return agree(text.operations(), model.operations(), "operations");
    }

    int stamp(int operation) {
        return agree(text.stamp(operation), model.stamp(operation), "stamp", operation);
    }

    int known(int r, int i, int j) {
        return agree(text.known(r, i, j), model.known(r, i, j), "known", r, i, j);
    }

    int stable(int r, int operation) {
        return agree(text.stable(r, operation) ? 1 : 0, model.stable(r, operation) ? 1 : 0, "stable", r, operation);
    }

    int kept(int r) {
        return agree(text.kept(r), model.kept(r), "kept", r);
    }

    int waiting(int r) {
        return agree(text.waiting(r), model.waiting(r), "waiting", r);
    }

    /** What the model says without a call, so that a run can be led where it is wanted. */
    int issuedSoFar() {
        return model.operations();
    }

    int lengthSoFar(int r) {
        return Math.max(0, model.length(r));
    }

    boolean deliveredSoFar(int r, int operation) {
        return model.wasDelivered(r, operation);
    }

    private int agree(int got, int want, String name, int... arguments) {
        calls++;
        check.due(got == want ? name : run + ", call " + calls + ": " + name + Arrays.toString(arguments), got, want);
        return want;
    }
}
