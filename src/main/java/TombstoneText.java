/** A text that three replicas edit at the same time; README.md says how it is used. */
public final class TombstoneText {
    public static final int BAD = -1;
    public static final int FULL = -2;

    private static final int REPLICAS = 3;
    private static final int MOST_OPERATIONS = 100;
    private static final int START = -1;
    private static final int NOT_THERE = -1;
    private static final int STAMP_STEP = 4;
    private static final char FIRST_CHARACTER = 32;
    private static final char LAST_CHARACTER = 126;
    private static final char NO_CHARACTER = 0;

    private final Log log;
    private final Replica[] replicas;

    public TombstoneText() {
        log = new Log();
        replicas = new Replica[REPLICAS];
        for (int r = 0; r < REPLICAS; r++) {
            replicas[r] = new Replica(r, log);
        }
    }

    public int insert(int r, int position, char c) {
        if (!isReplica(r) || c < FIRST_CHARACTER || c > LAST_CHARACTER) {
            return BAD;
        }
        Replica replica = replicas[r];
        if (position < 0 || position > replica.textLength) {
            return BAD;
        }
        return log.isFull() ? FULL : replica.issue(replica.elementBefore(position), c);
    }

    public int erase(int r, int position) {
        if (!isReplica(r)) {
            return BAD;
        }
        int target = replicas[r].elementAt(position);
        if (target == NOT_THERE) {
            return BAD;
        }
        return log.isFull() ? FULL : replicas[r].issue(target, NO_CHARACTER);
    }

    public int deliver(int r, int operation) {
        if (!isReplica(r) || !log.isIssued(operation)) {
            return BAD;
        }
        replicas[r].receive(operation);
        return replicas[r].applyReady();
    }

    public int sync(int r, int s) {
        if (!isReplica(r) || !isReplica(s)) {
            return BAD;
        }
        replicas[r].receiveAllOf(replicas[s]);
        return replicas[r].applyReady();
    }

    public int collect(int r) {
        return isReplica(r) ? replicas[r].dropErased() : BAD;
    }

    public int length(int r) {
        return isReplica(r) ? replicas[r].textLength : BAD;
    }

    public int at(int r, int position) {
        if (!isReplica(r)) {
            return BAD;
        }
        int element = replicas[r].elementAt(position);
        if (element == NOT_THERE) {
            return BAD;
        }
        return log.characters[element];
    }

    public int position(int r, int operation) {
        if (!isReplica(r)) {
            return BAD;
        }
        int found = replicas[r].positionOf(operation);
        return found == NOT_THERE ? BAD : found;
    }

    public boolean same(int r, int s) {
        return isReplica(r) && isReplica(s) && replicas[r].readsLike(replicas[s]);
    }

    public int operations() {
        return log.count;
    }

    public int stamp(int operation) {
        if (!log.isIssued(operation)) {
            return BAD;
        }
        return STAMP_STEP * log.stamps[operation] + log.issuers[operation];
    }

    public int known(int r, int i, int j) {
        if (!isReplica(r) || !isReplica(i) || !isReplica(j)) {
            return BAD;
        }
        return replicas[r].seen[i][j];
    }

    public boolean stable(int r, int operation) {
        return isReplica(r) && log.isIssued(operation) && replicas[r].isSettled(operation);
    }

    public int kept(int r) {
        return isReplica(r) ? replicas[r].keptCount : BAD;
    }

    public int waiting(int r) {
        return isReplica(r) ? replicas[r].waitingCount : BAD;
    }

    private static boolean isReplica(int r) {
        return r >= 0 && r < REPLICAS;
    }

    /**
     * All operations by their numbers, and all elements in order. One order serves all
     * replicas: what a replica has applied is never without the elements it is placed
     * after, so the replica's order is this one with the elements that it lacks left out.
     */
    private static final class Log {
        private final int[] issuers = new int[MOST_OPERATIONS];
        private final int[] stamps = new int[MOST_OPERATIONS];
        private final int[] targets = new int[MOST_OPERATIONS];
        private final char[] characters = new char[MOST_OPERATIONS];
        private final int[] clocks = new int[MOST_OPERATIONS * REPLICAS];
        private final int[] order = new int[MOST_OPERATIONS];
        private int count;
        private int elements;

        boolean isFull() {
            return count >= MOST_OPERATIONS;
        }

        boolean isIssued(int operation) {
            return operation >= 0 && operation < count;
        }

        boolean isErase(int operation) {
            return characters[operation] == NO_CHARACTER;
        }

        int clockOf(int operation, int replica) {
            return clocks[operation * REPLICAS + replica];
        }

        /** A clock counts its own operation too, so there it tells the place in line. */
        int placeInLine(int operation) {
            return clockOf(operation, issuers[operation]);
        }

        /** Only called when the log isn't full. */
        int record(int issuer, int newStamp, int[] appliedBefore, int target, char character) {
            int operation = count;
            count++;
            issuers[operation] = issuer;
            stamps[operation] = newStamp;
            targets[operation] = target;
            characters[operation] = character;
            for (int j = 0; j < REPLICAS; j++) {
                clocks[operation * REPLICAS + j] = appliedBefore[j] + (j == issuer ? 1 : 0);
            }
            if (character != NO_CHARACTER) {
                putInOrder(operation);
            }
            return operation;
        }

        /**
         * An element's stamp is greater than that of the one it is placed after. So all that
         * stands behind a sibling that goes first goes first by its stamp too, and what
         * follows them, a later sibling or an element outside the target's own, does not.
         */
        private void putInOrder(int element) {
            int index = indexBehind(targets[element]);
            while (index < elements && goesFirst(order[index], element)) {
                index++;
            }
            for (int i = elements; i > index; i--) {
                order[i] = order[i - 1];
            }
            order[index] = element;
            elements++;
        }

        private int indexBehind(int target) {
            int index = 0;
            if (target != START) {
                while (index < elements && order[index] != target) {
                    index++;
                }
                index = Math.min(index + 1, elements);
            }
            return index;
        }

        private boolean goesFirst(int one, int other) {
            if (stamps[one] != stamps[other]) {
                return stamps[one] > stamps[other];
            }
            return issuers[one] > issuers[other];
        }
    }

    /** What one replica has applied, what waits there, and the text that comes of it. */
    private static final class Replica {
        private final int self;
        private final Log log;
        private final int[][] seen = new int[REPLICAS][REPLICAS];
        private final boolean[] waits = new boolean[MOST_OPERATIONS];
        private final boolean[] erased = new boolean[MOST_OPERATIONS];
        private final boolean[] isKept = new boolean[MOST_OPERATIONS];
        private final boolean[] mayGo = new boolean[MOST_OPERATIONS];
        private final int[] text = new int[MOST_OPERATIONS];
        private int textLength;
        private int keptCount;
        private int waitingCount;
        private int greatestStamp;

        Replica(int self, Log log) {
            this.self = self;
            this.log = log;
        }

        int elementAt(int place) {
            return place >= 0 && place < textLength ? text[place] : NOT_THERE;
        }

        /** Only called for a place from 0 to the text's length. */
        int elementBefore(int place) {
            return place == 0 ? START : text[place - 1];
        }

        int positionOf(int element) {
            for (int i = 0; i < textLength; i++) {
                if (text[i] == element) {
                    return i;
                }
            }
            return NOT_THERE;
        }

        boolean readsLike(Replica other) {
            if (textLength != other.textLength) {
                return false;
            }
            for (int i = 0; i < textLength; i++) {
                if (log.characters[text[i]] != log.characters[other.text[i]]) {
                    return false;
                }
            }
            return true;
        }

        /** Lines are applied without gaps, so a count tells of each operation in the line. */
        boolean hasApplied(int operation) {
            return log.placeInLine(operation) <= seen[self][log.issuers[operation]];
        }

        /** Our own row of what is seen is among the rows, so what is settled is applied here. */
        boolean isSettled(int operation) {
            int issuer = log.issuers[operation];
            int place = log.placeInLine(operation);
            for (int i = 0; i < REPLICAS; i++) {
                if (seen[i][issuer] < place) {
                    return false;
                }
            }
            return true;
        }

        int issue(int target, char character) {
            int operation = log.record(self, greatestStamp + 1, seen[self], target, character);
            apply(operation);
            rewriteText();
            return operation;
        }

        void receive(int operation) {
            if (!hasApplied(operation) && !waits[operation]) {
                waits[operation] = true;
                waitingCount++;
            }
        }

        void receiveAllOf(Replica other) {
            for (int operation = 0; operation < log.count; operation++) {
                if (other.hasApplied(operation)) {
                    receive(operation);
                }
            }
        }

        /** An operation builds only on lower numbers, so one way up the numbers finds all. */
        int applyReady() {
            int done = 0;
            for (int operation = 0; operation < log.count; operation++) {
                if (waits[operation] && isReady(operation)) {
                    waits[operation] = false;
                    waitingCount--;
                    apply(operation);
                    done++;
                }
            }
            if (done > 0) {
                rewriteText();
            }
            return done;
        }

        private boolean isReady(int operation) {
            int issuer = log.issuers[operation];
            if (seen[self][issuer] != log.placeInLine(operation) - 1) {
                return false;
            }
            for (int j = 0; j < REPLICAS; j++) {
                if (j != issuer && seen[self][j] < log.clockOf(operation, j)) {
                    return false;
                }
            }
            return true;
        }

        private void apply(int operation) {
            int issuer = log.issuers[operation];
            for (int j = 0; j < REPLICAS; j++) {
                seen[issuer][j] = log.clockOf(operation, j);
            }
            seen[self][issuer] = log.placeInLine(operation);
            greatestStamp = Math.max(greatestStamp, log.stamps[operation]);
            if (log.isErase(operation)) {
                erased[log.targets[operation]] = true;
            } else {
                isKept[operation] = true;
                keptCount++;
            }
        }

        private void rewriteText() {
            textLength = 0;
            for (int i = 0; i < log.elements; i++) {
                int element = log.order[i];
                if (hasApplied(element) && !erased[element]) {
                    text[textLength] = element;
                    textLength++;
                }
            }
        }

        int dropErased() {
            markWhatMayGo();
            int dropped = 0;
            for (int element = 0; element < log.count; element++) {
                if (mayGo[element] && isKept[element]) {
                    isKept[element] = false;
                    dropped++;
                }
            }
            keptCount -= dropped;
            return dropped;
        }

        /** An element's number is below its erase's, so its old mark is gone when it gets a new one. */
        private void markWhatMayGo() {
            for (int operation = 0; operation < log.count; operation++) {
                mayGo[operation] = false;
                if (log.isErase(operation) && isSettled(operation)) {
                    mayGo[log.targets[operation]] = true;
                }
            }
            for (int operation = 0; operation < log.count; operation++) {
                if (holdsItsTarget(operation)) {
                    mayGo[log.targets[operation]] = false;
                }
            }
        }

        private boolean holdsItsTarget(int operation) {
            return !log.isErase(operation) && log.targets[operation] != START
                && hasApplied(operation) && !isSettled(operation);
        }
    }
}
