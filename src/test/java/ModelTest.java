import java.util.Map;
import java.util.Random;
import java.util.TreeMap;

/**
 * Runs of 512 calls of all methods with all kinds of arguments, right and wrong, each answer
 * against the model's. A run changes its habits every 64 calls, so that some edits meet many
 * others that are on their way, and some meet none. The seeds are fixed, so the runs are the
 * same each time.
 */
public final class ModelTest {
    private static final int RUNS = 500;
    private static final int CALLS = 512;
    private static final int CALLS_OF_ONE_HABIT = 64;
    private static final int[] WRONG = {-1, 3, 100, -2, 101, Integer.MIN_VALUE, Integer.MAX_VALUE};
    private static final char[] WRONG_CHARACTERS = {0, 31, 127, 255, 256 + 'a', 0xFFFF};

    private enum Place { ANYWHERE, FRONT, BACK, MIDDLE }

    private enum Parcel { ANY, LATEST, EARLIEST }

    private final Random random;
    private final Both both;
    private final Map<String, Integer> greatest;
    private final int shareOfWrong;
    private final int letters;
    private int shareOfEdits;
    private int shareOfDelivery;
    private int shareOfErases;
    private int shareOfSyncs;
    private int shareOfCollects;
    private int shareOfWriter;
    private int writer;
    private Place place;
    private Parcel parcel;

    private ModelTest(Check check, int run, Map<String, Integer> greatest) {
        random = new Random(run);
        both = new Both(check, "run " + run);
        this.greatest = greatest;
        shareOfWrong = random.nextInt(8);
        letters = random.nextBoolean() ? 2 : 95;
    }

    public static void main(String[] args) {
        Check check = new Check("ModelTest");
        Map<String, Integer> greatest = new TreeMap<>();
        for (int run = 0; run < RUNS && check.wrong() == 0; run++) {
            ModelTest test = new ModelTest(check, run, greatest);
            while (test.both.calls() < CALLS && check.wrong() == 0) {
                test.callOnce();
            }
        }
        if (check.wrong() == 0) {
            checkThatRunsGoFar(check, greatest);
        }
        check.end();
    }

    /** Runs that never come to a full, waiting or collected text would show little. */
    private static void checkThatRunsGoFar(Check check, Map<String, Integer> greatest) {
        String[] methods = {"insert", "erase", "deliver", "sync", "collect", "length", "position",
            "operations", "known", "kept", "waiting", "stable", "same"};
        int[] least = {99, 99, 20, 80, 20, 90, 70, 100, 60, 90, 30, 1, 1};
        for (int i = 0; i < methods.length; i++) {
            int reached = greatest.getOrDefault(methods[i], 0);
            check.due("greatest answer of " + methods[i] + ", " + reached + ", is far", reached >= least[i], true);
        }
    }

    private void callOnce() {
        if (both.calls() % CALLS_OF_ONE_HABIT == 0) {
            takeNewHabits();
        }
        int kind = random.nextInt(100);
        if (kind < shareOfEdits) {
            edit();
        } else if (kind < shareOfEdits + shareOfDelivery) {
            send();
        } else {
            ask();
        }
    }

    private void takeNewHabits() {
        shareOfEdits = oneOf(0, 10, 30, 70);
        shareOfDelivery = oneOf(5, 20, 50, 100);
        shareOfErases = oneOf(0, 20, 40, 60);
        shareOfSyncs = oneOf(0, 0, 20, 60);
        shareOfCollects = oneOf(0, 5, 20, 40);
        shareOfWriter = oneOf(0, 0, 50, 95);
        writer = random.nextInt(3);
        place = Place.values()[random.nextInt(Place.values().length)];
        parcel = Parcel.values()[random.nextInt(Parcel.values().length)];
    }

    private int oneOf(int... values) {
        return values[random.nextInt(values.length)];
    }

    private void edit() {
        int r = random.nextInt(100) < shareOfWriter ? writer : replica();
        if (random.nextInt(100) < shareOfErases) {
            reach("erase", both.erase(r, placeOfOne(r)));
        } else {
            reach("insert", both.insert(r, placeToInsert(r), character()));
        }
    }

    private void send() {
        int r = replica();
        int kind = random.nextInt(100);
        if (kind < shareOfSyncs) {
            reach("sync", both.sync(r, replica()));
        } else if (kind < shareOfSyncs + shareOfCollects) {
            reach("collect", both.collect(r));
        } else {
            reach("deliver", both.deliver(r, parcel(r)));
        }
    }

    private void ask() {
        int r = replica();
        switch (random.nextInt(10)) {
            case 0 -> reach("length", both.length(r));
            case 1 -> reach("at", both.at(r, placeOfOne(r)));
            case 2 -> reach("position", both.position(r, operation()));
            case 3 -> reach("same", both.same(r, replica()));
            case 4 -> reach("operations", both.operations());
            case 5 -> reach("stamp", both.stamp(operation()));
            case 6 -> reach("known", both.known(r, replica(), replica()));
            case 7 -> reach("stable", both.stable(r, operation()));
            case 8 -> reach("kept", both.kept(r));
            default -> reach("waiting", both.waiting(r));
        }
    }

    private void reach(String method, int answer) {
        greatest.merge(method, answer, Math::max);
    }

    private boolean isWrongNow() {
        return random.nextInt(100) < shareOfWrong;
    }

    private int wrong() {
        return WRONG[random.nextInt(WRONG.length)];
    }

    private int replica() {
        return isWrongNow() ? wrong() : random.nextInt(3);
    }

    private int operation() {
        return isWrongNow() ? wrong() : random.nextInt(both.issuedSoFar() + 1);
    }

    /** An operation for a replica: any, or the latest or earliest that it lacks. */
    private int parcel(int r) {
        int any = operation();
        if (parcel == Parcel.ANY || r < 0 || r > 2 || isWrongNow()) {
            return any;
        }
        int skip = random.nextInt(2);
        int issued = both.issuedSoFar();
        for (int i = 0; i < issued; i++) {
            int operation = parcel == Parcel.LATEST ? issued - 1 - i : i;
            if (!both.deliveredSoFar(r, operation) && skip-- == 0) {
                return operation;
            }
        }
        return any;
    }

    private int placeToInsert(int r) {
        return isWrongNow() ? oneOf(wrong(), both.lengthSoFar(r) + 1) : placeIn(both.lengthSoFar(r));
    }

    private int placeOfOne(int r) {
        return isWrongNow() ? oneOf(wrong(), both.lengthSoFar(r)) : placeIn(Math.max(0, both.lengthSoFar(r) - 1));
    }

    private int placeIn(int length) {
        return switch (place) {
            case FRONT -> 0;
            case BACK -> length;
            case MIDDLE -> length / 2;
            default -> random.nextInt(length + 1);
        };
    }

    private char character() {
        return isWrongNow() ? WRONG_CHARACTERS[random.nextInt(WRONG_CHARACTERS.length)]
            : (char) (32 + random.nextInt(letters));
    }
}
