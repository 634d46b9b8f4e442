import java.util.ArrayList;
import java.util.List;

/**
 * Every run of a few calls that change something, on from a new object and on from some scenes
 * in which much is about to happen; after each, all that can be asked, against the model.
 */
public final class SmallRunsTest {
    private static final int INSERT = 0;
    private static final int ERASE = 1;
    private static final int DELIVER = 2;
    private static final int SYNC = 3;
    private static final int COLLECT = 4;

    private static final int ENOUGH = 20;

    private static final int[][] NEW = {};
    /** One element after another is erased, and all but one replica have told so. */
    private static final int[][] NEARLY_STABLE = {
        {INSERT, 0, 0}, {INSERT, 0, 1}, {ERASE, 0, 0}, {SYNC, 1, 0}, {SYNC, 2, 0},
        {INSERT, 1, 0}, {INSERT, 2, 1}, {SYNC, 0, 1},
    };
    /** Three write at once after the same element, and two erase it. */
    private static final int[][] ALL_AT_ONCE = {
        {INSERT, 1, 0}, {SYNC, 0, 1}, {SYNC, 2, 1}, {INSERT, 0, 1}, {INSERT, 1, 1}, {INSERT, 2, 1},
        {ERASE, 0, 0}, {ERASE, 2, 0},
    };
    /** All know that an element is erased, and one has written after it, which not all know. */
    private static final int[][] HELD = {
        {INSERT, 0, 0}, {SYNC, 1, 0}, {SYNC, 2, 0}, {INSERT, 1, 1}, {ERASE, 2, 0},
        {SYNC, 0, 2}, {SYNC, 1, 2}, {INSERT, 1, 0},
    };
    /** Much was issued by two in turns, and the third has received the later half alone. */
    private static final int[][] MUCH_WAITS = {
        {INSERT, 0, 0}, {DELIVER, 1, 0}, {INSERT, 1, 1}, {DELIVER, 0, 1}, {ERASE, 0, 0},
        {DELIVER, 1, 2}, {INSERT, 1, 0}, {DELIVER, 2, 3}, {DELIVER, 2, 2},
    };

    private final Check check;
    private final List<int[]> calls = new ArrayList<>();
    private int runs;

    private SmallRunsTest(Check check) {
        this.check = check;
    }

    public static void main(String[] args) {
        Check check = new Check("SmallRunsTest");
        runAllFrom(check, NEW, 5);
        runAllFrom(check, NEARLY_STABLE, 3);
        runAllFrom(check, ALL_AT_ONCE, 3);
        runAllFrom(check, HELD, 3);
        runAllFrom(check, MUCH_WAITS, 3);
        check.end();
    }

    private static void runAllFrom(Check check, int[][] scene, int more) {
        SmallRunsTest test = new SmallRunsTest(check);
        test.calls.addAll(List.of(scene));
        test.goOn(test.read(), more);
        System.out.println("SmallRunsTest: " + test.runs + " runs");
    }

    /** A call that changes nothing is read after, but no run goes on from it. */
    private void goOn(Reached here, int more) {
        for (int[] call : here.next) {
            if (check.wrong() >= ENOUGH) {
                return;
            }
            calls.add(call);
            Reached there = read();
            if (more > 1 && !there.answers.equals(here.answers)) {
                goOn(there, more - 1);
            }
            calls.remove(calls.size() - 1);
        }
    }

    private record Reached(List<Integer> answers, List<int[]> next) {
    }

    private Reached read() {
        runs++;
        Both both = new Both(check, "small run " + runs);
        for (int[] call : calls) {
            play(both, call);
        }
        Reached reached = new Reached(new ArrayList<>(), nextCalls(both));
        readAll(both, reached.answers);
        return reached;
    }

    private static void play(Both both, int[] call) {
        switch (call[0]) {
            case INSERT -> both.insert(call[1], call[2], (char) ('a' + both.issuedSoFar()));
            case ERASE -> both.erase(call[1], call[2]);
            case DELIVER -> both.deliver(call[1], call[2]);
            case SYNC -> both.sync(call[1], call[2]);
            default -> both.collect(call[1]);
        }
    }

    private static List<int[]> nextCalls(Both both) {
        List<int[]> next = new ArrayList<>();
        for (int r = 0; r < 3; r++) {
            for (int place = 0; place <= both.lengthSoFar(r); place++) {
                next.add(new int[] {INSERT, r, place});
            }
            for (int place = 0; place < both.lengthSoFar(r); place++) {
                next.add(new int[] {ERASE, r, place});
            }
            for (int operation = 0; operation < both.issuedSoFar(); operation++) {
                next.add(new int[] {DELIVER, r, operation});
            }
            for (int s = 0; s < 3; s++) {
                next.add(new int[] {SYNC, r, s});
            }
            next.add(new int[] {COLLECT, r});
        }
        return next;
    }

    private static void readAll(Both both, List<Integer> answers) {
        int operations = both.operations();
        answers.add(operations);
        for (int operation = 0; operation < operations; operation++) {
            answers.add(both.stamp(operation));
        }
        for (int r = 0; r < 3; r++) {
            readReplica(both, r, operations, answers);
        }
    }

    private static void readReplica(Both both, int r, int operations, List<Integer> answers) {
        int length = both.length(r);
        for (int place = 0; place <= length; place++) {
            answers.add(both.at(r, place));
        }
        for (int operation = 0; operation < operations; operation++) {
            answers.add(both.position(r, operation));
            answers.add(both.stable(r, operation));
        }
        for (int s = 0; s < 3; s++) {
            answers.add(both.same(r, s));
            for (int j = 0; j < 3; j++) {
                answers.add(both.known(r, s, j));
            }
        }
        answers.add(both.kept(r));
        answers.add(both.waiting(r));
    }
}
