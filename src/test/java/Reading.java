import java.util.function.Consumer;

/**
 * All that an object's answers can tell of its state, now and by what comes later. An object
 * answers for 512 calls only, so each part is read off an object of its own that has played
 * the same scene; a scene of up to 270 calls leaves room for the longest part.
 */
final class Reading {
    private final Consumer<TombstoneText> scene;
    private final StringBuilder answers = new StringBuilder();

    private Reading(Consumer<TombstoneText> scene) {
        this.scene = scene;
    }

    static String after(Consumer<TombstoneText> scene) {
        Reading reading = new Reading(scene);
        reading.readLog(Scenes.play(scene));
        reading.readLog(reading.playOn());
        for (int r = 0; r < 3; r++) {
            reading.readText(Scenes.play(scene), r);
            reading.readKnowledge(Scenes.play(scene), r);
            reading.readDeliveries(Scenes.play(scene), r);
            reading.readText(reading.playOn(), r);
            reading.readKnowledge(reading.playOn(), r);
        }
        return reading.answers.toString();
    }

    private void readLog(TombstoneText x) {
        int operations = x.operations();
        add(operations);
        for (int operation = 0; operation < operations; operation++) {
            add(x.stamp(operation));
        }
    }

    private void readText(TombstoneText x, int r) {
        int operations = x.operations();
        answers.append(Scenes.textOf(x, r)).append(';');
        for (int operation = 0; operation < operations; operation++) {
            add(x.position(r, operation));
        }
        add(x.kept(r));
        add(x.waiting(r));
    }

    private void readKnowledge(TombstoneText x, int r) {
        int operations = x.operations();
        for (int operation = 0; operation < operations; operation++) {
            add(x.stable(r, operation) ? 1 : 0);
        }
        for (int i = 0; i < 3; i++) {
            add(x.same(r, i) ? 1 : 0);
            for (int j = 0; j < 3; j++) {
                add(x.known(r, i, j));
            }
        }
    }

    /** Tells which operations wait, not only how many. */
    private void readDeliveries(TombstoneText x, int r) {
        int operations = x.operations();
        for (int operation = 0; operation < operations; operation++) {
            add(x.deliver(r, operation));
        }
    }

    /** Edits, exchange and collecting bring out what the scene left behind unseen. */
    private TombstoneText playOn() {
        TombstoneText x = Scenes.play(scene);
        for (int round = 0; round < 2; round++) {
            for (int r = 0; r < 3; r++) {
                add(x.collect(r));
                add(x.insert(r, 0, 'e'));
            }
            for (int r = 0; r < 3; r++) {
                add(x.sync(r, (r + 1) % 3));
                add(x.sync(r, (r + 2) % 3));
            }
        }
        for (int r = 0; r < 3; r++) {
            add(x.collect(r));
        }
        return x;
    }

    private void add(int answer) {
        answers.append(answer).append(' ');
    }
}
