import java.util.Random;

/**
 * Runs of 512 calls with all kinds of arguments, right and wrong, each answer against the
 * model's. The seeds are fixed, so the runs are the same each time.
 */
public final class ModelTest {
    private static final int RUNS = 600;
    private static final int CALLS = 512;
    private static final int[] WRONG = {-1, 3, 100, -2, 101, Integer.MIN_VALUE, Integer.MAX_VALUE};

    private final Check check;
    private final Random random;
    private final TombstoneText text = new TombstoneText();
    private final Model model = new Model();
    private final int run;
    private final int shareOfEdits;
    private final int shareOfDelivery;
    private final int shareOfWrong;
    private final int letters;

    private ModelTest(Check check, int run) {
        this.check = check;
        this.run = run;
        random = new Random(run);
        shareOfEdits = 5 + random.nextInt(40);
        shareOfDelivery = 5 + random.nextInt(40);
        shareOfWrong = random.nextInt(8);
        letters = random.nextBoolean() ? 2 : 95;
    }

    public static void main(String[] args) {
        Check check = new Check("ModelTest");
        for (int run = 0; run < RUNS && check.wrong() == 0; run++) {
            ModelTest test = new ModelTest(check, run);
            for (int call = 0; call < CALLS && check.wrong() == 0; call++) {
                test.callOnce(call);
            }
        }
        check.end();
    }

    private void callOnce(int call) {
        String where = "run " + run + ", call " + call + ": ";
        int kind = random.nextInt(100);
        if (kind < shareOfEdits) {
            edit(where);
        } else if (kind < shareOfEdits + shareOfDelivery) {
            send(where);
        } else {
            ask(where);
        }
    }

    private void edit(String where) {
        int r = replica();
        if (random.nextInt(3) > 0) {
            int position = place(r);
            char c = character();
            check.due(where + "insert(" + r + ", " + position + ", " + (int) c + ")",
                text.insert(r, position, c), model.insert(r, position, c));
        } else {
            int position = place(r);
            check.due(where + "erase(" + r + ", " + position + ")",
                text.erase(r, position), model.erase(r, position));
        }
    }

    private void send(String where) {
        int r = replica();
        int kind = random.nextInt(4);
        if (kind == 0) {
            int s = replica();
            check.due(where + "sync(" + r + ", " + s + ")", text.sync(r, s), model.sync(r, s));
        } else if (kind == 1) {
            check.due(where + "collect(" + r + ")", text.collect(r), model.collect(r));
        } else {
            int operation = operation();
            check.due(where + "deliver(" + r + ", " + operation + ")",
                text.deliver(r, operation), model.deliver(r, operation));
        }
    }

    private void ask(String where) {
        int r = replica();
        int s = replica();
        int operation = operation();
        int place = place(r);
        switch (random.nextInt(10)) {
            case 0 -> check.due(where + "length(" + r + ")", text.length(r), model.length(r));
            case 1 -> check.due(where + "at(" + r + ", " + place + ")", text.at(r, place), model.at(r, place));
            case 2 -> check.due(where + "position(" + r + ", " + operation + ")",
                text.position(r, operation), model.position(r, operation));
            case 3 -> check.due(where + "same(" + r + ", " + s + ")", text.same(r, s), model.same(r, s));
            case 4 -> check.due(where + "operations()", text.operations(), model.operations());
            case 5 -> check.due(where + "stamp(" + operation + ")", text.stamp(operation), model.stamp(operation));
            case 6 -> {
                int j = replica();
                check.due(where + "known(" + r + ", " + s + ", " + j + ")",
                    text.known(r, s, j), model.known(r, s, j));
            }
            case 7 -> check.due(where + "stable(" + r + ", " + operation + ")",
                text.stable(r, operation), model.stable(r, operation));
            case 8 -> check.due(where + "kept(" + r + ")", text.kept(r), model.kept(r));
            default -> check.due(where + "waiting(" + r + ")", text.waiting(r), model.waiting(r));
        }
    }

    private boolean isWrongNow() {
        return random.nextInt(100) < shareOfWrong;
    }

    private int wrong() {
        return WRONG[random.nextInt(WRONG.length)];
    }

    private int replica() {
        return isWrongNow() ? wrong() : random.nextInt(3);
    }

    private int operation() {
        return isWrongNow() ? wrong() : random.nextInt(model.operations() + 1);
    }

    private int place(int r) {
        return isWrongNow() ? wrong() : random.nextInt(Math.max(0, model.length(r)) + 1);
    }

    private char character() {
        char[] odd = {0, 31, 127, 255, 256 + 'a', 0xFFFF};
        return isWrongNow() ? odd[random.nextInt(odd.length)] : (char) (32 + random.nextInt(letters));
    }
}
