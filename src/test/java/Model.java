import java.util.ArrayList;
import java.util.List;
import java.util.TreeSet;

/** The document written down word by word, without regard to speed; the tests' measure. */
final class Model {
    private static final int BAD = -1;
    private static final int FULL = -2;
    private static final int START = -1;

    private static final class Operation {
        int number;
        int replica;
        int place;
        int stamp;
        int target;
        boolean inserts;
        char character;
        int[] clock = new int[3];
    }

    private final List<Operation> issued = new ArrayList<>();
    private final List<TreeSet<Integer>> applied = threeSets();
    private final List<TreeSet<Integer>> waits = threeSets();
    private final List<TreeSet<Integer>> collected = threeSets();

    private static List<TreeSet<Integer>> threeSets() {
        return List.of(new TreeSet<>(), new TreeSet<>(), new TreeSet<>());
    }

    int insert(int r, int position, char c) {
        if (badReplica(r) || position < 0 || position > text(r).size() || c < 32 || c > 126) {
            return BAD;
        }
        if (issued.size() == 100) {
            return FULL;
        }
        return issue(r, position == 0 ? START : text(r).get(position - 1), true, c);
    }

    int erase(int r, int position) {
        if (badReplica(r) || position < 0 || position >= text(r).size()) {
            return BAD;
        }
        if (issued.size() == 100) {
            return FULL;
        }
        return issue(r, text(r).get(position), false, '?');
    }

    private int issue(int r, int target, boolean inserts, char c) {
        Operation o = new Operation();
        o.number = issued.size();
        o.replica = r;
        o.place = countApplied(r, r) + 1;
        o.stamp = 1;
        for (int n : applied.get(r)) {
            o.stamp = Math.max(o.stamp, issued.get(n).stamp + 1);
        }
        o.target = target;
        o.inserts = inserts;
        o.character = c;
        issued.add(o);
        applied.get(r).add(o.number);
        for (int j = 0; j < 3; j++) {
            o.clock[j] = countApplied(r, j);
        }
        return o.number;
    }

    int deliver(int r, int operation) {
        if (badReplica(r) || badOperation(operation)) {
            return BAD;
        }
        return deliverAll(r, List.of(operation));
    }

    int sync(int r, int s) {
        if (badReplica(r) || badReplica(s)) {
            return BAD;
        }
        return deliverAll(r, new ArrayList<>(applied.get(s)));
    }

    private int deliverAll(int r, List<Integer> numbers) {
        int before = applied.get(r).size();
        for (int n : numbers) {
            if (!applied.get(r).contains(n)) {
                waits.get(r).add(n);
            }
        }
        int ready = lastReady(r);
        while (ready != BAD) {
            waits.get(r).remove(ready);
            applied.get(r).add(ready);
            ready = lastReady(r);
        }
        return applied.get(r).size() - before;
    }

    private int lastReady(int r) {
        for (int n : waits.get(r).descendingSet()) {
            if (isReady(r, issued.get(n))) {
                return n;
            }
        }
        return BAD;
    }

    private boolean isReady(int r, Operation o) {
        boolean ready = countApplied(r, o.replica) == o.place - 1;
        for (int j = 0; j < 3; j++) {
            ready &= j == o.replica || countApplied(r, j) >= o.clock[j];
        }
        return ready;
    }

    int collect(int r) {
        if (badReplica(r)) {
            return BAD;
        }
        TreeSet<Integer> goes = new TreeSet<>();
        for (int n : applied.get(r)) {
            if (issued.get(n).inserts && !collected.get(r).contains(n) && mayGo(r, n)) {
                goes.add(n);
            }
        }
        collected.get(r).addAll(goes);
        return goes.size();
    }

    private boolean mayGo(int r, int element) {
        boolean eraseIsStable = false;
        boolean allStable = true;
        for (Operation o : issued) {
            if (o.target == element) {
                eraseIsStable |= !o.inserts && stable(r, o.number);
                allStable &= !o.inserts || !applied.get(r).contains(o.number) || stable(r, o.number);
            }
        }
        return eraseIsStable && allStable;
    }

    int length(int r) {
        return badReplica(r) ? BAD : text(r).size();
    }

    int at(int r, int position) {
        if (badReplica(r) || position < 0 || position >= text(r).size()) {
            return BAD;
        }
        return issued.get(text(r).get(position)).character;
    }

    int position(int r, int operation) {
        if (badReplica(r) || badOperation(operation)) {
            return BAD;
        }
        return text(r).indexOf(operation);
    }

    boolean same(int r, int s) {
        return !badReplica(r) && !badReplica(s) && characters(r).equals(characters(s));
    }

    int operations() {
        return issued.size();
    }

    int stamp(int operation) {
        return badOperation(operation) ? BAD : 4 * issued.get(operation).stamp + issued.get(operation).replica;
    }

    int known(int r, int i, int j) {
        if (badReplica(r) || badReplica(i) || badReplica(j)) {
            return BAD;
        }
        if (i == r) {
            return countApplied(r, j);
        }
        Operation latest = null;
        for (int n : applied.get(r)) {
            Operation o = issued.get(n);
            if (o.replica == i && (latest == null || o.place > latest.place)) {
                latest = o;
            }
        }
        return latest == null ? 0 : latest.clock[j];
    }

    boolean stable(int r, int operation) {
        if (badReplica(r) || badOperation(operation)) {
            return false;
        }
        Operation o = issued.get(operation);
        boolean stable = applied.get(r).contains(operation);
        for (int i = 0; i < 3; i++) {
            stable &= known(r, i, o.replica) >= o.place;
        }
        return stable;
    }

    int kept(int r) {
        if (badReplica(r)) {
            return BAD;
        }
        int kept = 0;
        for (int n : applied.get(r)) {
            if (issued.get(n).inserts && !collected.get(r).contains(n)) {
                kept++;
            }
        }
        return kept;
    }

    int waiting(int r) {
        return badReplica(r) ? BAD : waits.get(r).size();
    }

    boolean wasDelivered(int r, int operation) {
        return applied.get(r).contains(operation) || waits.get(r).contains(operation);
    }

    private static boolean badReplica(int r) {
        return r != 0 && r != 1 && r != 2;
    }

    private boolean badOperation(int operation) {
        return operation < 0 || operation >= issued.size();
    }

    private int countApplied(int r, int j) {
        int count = 0;
        for (int n : applied.get(r)) {
            if (issued.get(n).replica == j) {
                count++;
            }
        }
        return count;
    }

    private String characters(int r) {
        StringBuilder text = new StringBuilder();
        for (int n : text(r)) {
            text.append(issued.get(n).character);
        }
        return text.toString();
    }

    private List<Integer> text(int r) {
        List<Integer> elements = new ArrayList<>();
        addAllPlacedAfter(r, START, elements);
        for (int n : applied.get(r)) {
            if (!issued.get(n).inserts) {
                elements.remove(Integer.valueOf(issued.get(n).target));
            }
        }
        return elements;
    }

    private void addAllPlacedAfter(int r, int target, List<Integer> elements) {
        List<Operation> siblings = new ArrayList<>();
        for (int n : applied.get(r)) {
            if (issued.get(n).inserts && issued.get(n).target == target) {
                siblings.add(issued.get(n));
            }
        }
        siblings.sort((a, b) -> a.stamp != b.stamp ? b.stamp - a.stamp : b.replica - a.replica);
        for (Operation o : siblings) {
            elements.add(o.number);
            addAllPlacedAfter(r, o.number, elements);
        }
    }
}
