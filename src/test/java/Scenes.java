import java.util.function.Consumer;

/** Runs of calls that the tests begin with. */
final class Scenes {
    /** Nothing was called yet. */
    static final Consumer<TombstoneText> NEW = x -> { };
    /** Ten operations: some wait, some are erased, one is collected, the texts differ. */
    static final Consumer<TombstoneText> BUSY = Scenes::playBusy;
    /** A hundred operations, of which some wait and some are erased. */
    static final Consumer<TombstoneText> FILLED = Scenes::playFilled;

    private Scenes() {
    }

    static TombstoneText play(Consumer<TombstoneText> scene) {
        TombstoneText x = new TombstoneText();
        scene.accept(x);
        return x;
    }

    static void write(TombstoneText x, int r, String text) {
        for (int i = 0; i < text.length(); i++) {
            x.insert(r, i, text.charAt(i));
        }
    }

    static void syncAll(TombstoneText x) {
        x.sync(0, 1);
        x.sync(0, 2);
        x.sync(1, 0);
        x.sync(2, 0);
    }

    static String textOf(TombstoneText x, int r) {
        StringBuilder text = new StringBuilder();
        int length = x.length(r);
        for (int i = 0; i < length; i++) {
            text.append((char) x.at(r, i));
        }
        return text.toString();
    }

    private static void playBusy(TombstoneText x) {
        write(x, 0, "abcd");
        syncAll(x);
        x.erase(0, 1);
        syncAll(x);
        x.insert(1, 1, 'x');
        x.insert(2, 2, 'y');
        x.sync(0, 1);
        x.sync(0, 2);
        x.collect(0);
        x.erase(0, 0);
        x.insert(1, 0, 'p');
        x.insert(1, 1, 'q');
        x.deliver(2, 9);
    }

    private static void playFilled(TombstoneText x) {
        for (int i = 0; i < 96; i++) {
            x.insert(i % 3, i / 3, (char) ('0' + i / 3));
        }
        x.sync(0, 1);
        x.erase(0, 0);
        x.erase(0, 0);
        x.erase(2, 31);
        x.erase(1, 5);
        x.deliver(2, 90);
        x.deliver(2, 0);
    }
}
