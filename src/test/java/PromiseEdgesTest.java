import java.util.function.ToIntBiFunction;

/**
 * Each sentence of the promises 1 to 16 that names a boundary has a test here that bears the
 * promise's number: the last input that is allowed, the first that is not, on either side, and
 * that a refused call has changed nothing.
 */
public final class PromiseEdgesTest {
    private static final int BAD = TombstoneText.BAD;
    private static final int FULL = TombstoneText.FULL;
    private static final int LEAST = Integer.MIN_VALUE;
    private static final int GREATEST = Integer.MAX_VALUE;
    /** Behind the nearest ones: those that would pass if only their low bits were looked at. */
    private static final int[] NO_REPLICAS = {-1, 3, -2, 4, 256, 65536, 1 << 30, GREATEST, LEAST};
    /** The last two become 1 and 2 when they are multiplied by 3 with wrap-around. */
    private static final int[] NEVER_OPERATIONS =
        {-1, 100, -2, 101, 256, 65536, GREATEST, LEAST, -1431655765, 1431655766};

    private static final Check CHECK = new Check("PromiseEdgesTest");
    private static final Quiet NEW = new Quiet(CHECK, "new", Scenes.NEW);
    private static final Quiet BUSY = new Quiet(CHECK, "busy", Scenes.BUSY);
    private static final Quiet FILLED = new Quiet(CHECK, "filled", Scenes.FILLED);
    private static final Quiet[] ALL = {NEW, BUSY, FILLED};

    public static void main(String[] args) {
        newObjectHasNoOperations();
        insertAfterTheStartIfPositionIsZero();
        insertPositionIsZeroToLength();
        insertPositionCountsOnlyWhatIsThere();
        insertCharacterIs32To126();
        insertNoReplica();
        insertFullWhen100WereIssued();
        insertBadGoesBeforeFull();
        erasePositionIsBelowLength();
        eraseOfAnEmptyText();
        eraseNoReplica();
        eraseFullWhen100WereIssued();
        eraseBadGoesBeforeFull();
        deliverAnswersHowManyAreApplied();
        deliverZeroWhenAppliedAlready();
        deliverZeroWhenItWaitsAlready();
        deliverBad();
        syncAllThatAreAppliedAndNoneThatWait();
        syncFromAnEmptyReplicaOrItself();
        syncBadFirstOrSecond();
        collectNothing();
        collectAllAtOnce();
        collectBad();
        lengthEdges();
        atEdges();
        positionEdges();
        positionBadForAnErase();
        positionBadWhenNotApplied();
        positionBadWhenErased();
        sameEdges();
        sameOfTheLongestTexts();
        sameFalseWhenOneIsBad();
        operationsEdges();
        stampEdges();
        knownEdges();
        knownBadWhenOneOfThemIs();
        stableEdges();
        stableFalseWhenOneIsBad();
        keptEdges();
        waitingEdges();
        CHECK.end();
    }

    // Promise 1: "No operations."

    private static void newObjectHasNoOperations() {
        NEW.due("1 operations", x -> x.operations(), 0);
        NEW.bad("1 no first operation", x -> x.stamp(0));
        for (int r = 0; r < 3; r++) {
            int replica = r;
            NEW.due("1 empty text", x -> x.length(replica), 0);
            NEW.due("1 nothing kept", x -> x.kept(replica), 0);
            NEW.due("1 nothing waits", x -> x.waiting(replica), 0);
            NEW.bad("1 nothing to deliver", x -> x.deliver(replica, 0));
            NEW.bad("1 no position", x -> x.position(replica, 0));
            NEW.isFalse("1 nothing stable", x -> x.stable(replica, 0));
            for (int i = 0; i < 9; i++) {
                int each = i;
                NEW.due("1 nothing known", x -> x.known(replica, each / 3, each % 3), 0);
            }
        }
        TombstoneText used = new TombstoneText();
        used.insert(0, 0, 'a');
        due("1 a second object has none", new TombstoneText().operations(), 0);
        due("1 the first keeps its own", used.operations(), 1);
    }

    // Promise 2

    /** "after the start, if position is 0": also when all that stands there is erased. */
    private static void insertAfterTheStartIfPositionIsZero() {
        TombstoneText x = new TombstoneText();
        due("2 into an empty text", x.insert(0, 0, 'a'), 0);
        x.sync(1, 0);
        due("2 before the first", x.insert(0, 0, 'b'), 1);
        due("2 is first", Scenes.textOf(x, 0), "ba");
        x.erase(1, 0);
        due("2 into a text that is empty again", x.insert(1, 0, 'c'), 3);
        due("2 it is alone", Scenes.textOf(x, 1), "c");
        x.insert(0, 2, 'd');
        x.insert(0, 3, 'e');
        x.sync(1, 0);
        due("2 it isn't behind what was erased", Scenes.textOf(x, 1), "cbde");
    }

    /** "position is 0 .. the text's length". */
    private static void insertPositionIsZeroToLength() {
        due("2 length 0, position 0", new TombstoneText().insert(0, 0, 'a'), 0);
        NEW.bad("2 length 0, position 1", x -> x.insert(0, 1, 'a'));
        NEW.bad("2 length 0, position -1", x -> x.insert(0, -1, 'a'));
        for (int r = 0; r < 3; r++) {
            int replica = r;
            int length = Scenes.play(Scenes.BUSY).length(r);
            due("2 position 0", Scenes.play(Scenes.BUSY).insert(r, 0, 'a'), 10);
            due("2 position length", Scenes.play(Scenes.BUSY).insert(r, length, 'a'), 10);
            BUSY.bad("2 position -1", x -> x.insert(replica, -1, 'a'));
            BUSY.bad("2 position length + 1", x -> x.insert(replica, length + 1, 'a'));
            BUSY.bad("2 least position", x -> x.insert(replica, LEAST, 'a'));
            BUSY.bad("2 greatest position", x -> x.insert(replica, GREATEST, 'a'));
            BUSY.bad("2 position 256", x -> x.insert(replica, 256, 'a'));
            BUSY.bad("2 position 65536", x -> x.insert(replica, 65536, 'a'));
        }
        TombstoneText x = new TombstoneText();
        for (int i = 0; i < 99; i++) {
            x.insert(0, i, 'a');
        }
        due("2 length 99, position 100", x.insert(0, 100, 'z'), BAD);
        due("2 length 99, position 99", x.insert(0, 99, 'z'), 99);
        due("2 the hundredth is last", x.at(0, 99), 'z');
    }

    /** The text's length, not that of another replica, and without what is erased or waits. */
    private static void insertPositionCountsOnlyWhatIsThere() {
        TombstoneText x = new TombstoneText();
        Scenes.write(x, 0, "abc");
        x.erase(0, 0);
        due("2 erased doesn't count", x.insert(0, 3, 'd'), BAD);
        due("2 the rest counts", x.insert(0, 2, 'd'), 4);
        due("2 behind the last", Scenes.textOf(x, 0), "bcd");
        x.deliver(1, 1);
        due("2 what waits doesn't count", x.insert(1, 1, 'e'), BAD);
        due("2 what is elsewhere doesn't count", x.insert(2, 1, 'e'), BAD);
        due("2 no number was used up", x.insert(2, 0, 'e'), 5);
    }

    /** "c is 32 .. 126": all of these and no other of the 65536. */
    private static void insertCharacterIs32To126() {
        for (int c = 0; c <= 0xFFFF; c++) {
            TombstoneText x = new TombstoneText();
            boolean allowed = c >= 32 && c <= 126;
            due("2 character " + c, x.insert(1, 0, (char) c), allowed ? 0 : BAD);
            due("2 length with character " + c, x.length(1), allowed ? 1 : 0);
            due("2 read character " + c, x.at(1, 0), allowed ? c : BAD);
        }
        int[] refused = {0, 31, 127, 255, 256, 256 + 'a', 0x8000 + 'a', 0xFFFF};
        for (int c : refused) {
            NEW.bad("2 character " + c, x -> x.insert(0, 0, (char) c));
            BUSY.bad("2 character " + c, x -> x.insert(1, 1, (char) c));
        }
    }

    private static void insertNoReplica() {
        allowedAndNot("2 insert", 10, (x, r) -> x.insert(r, 0, 'a'));
    }

    /** "FULL when 100 were issued". */
    private static void insertFullWhen100WereIssued() {
        TombstoneText x = new TombstoneText();
        for (int i = 0; i < 99; i++) {
            x.insert(0, 0, 'a');
        }
        due("2 the hundredth", x.insert(0, 0, 'a'), 99);
        due("2 the one after", x.insert(0, 0, 'a'), FULL);
        due("2 at an empty replica too", x.insert(2, 0, 'a'), FULL);
        due("2 the text is as it was", x.length(0) + x.length(2), 100);
        due("2 hundred were issued", x.operations(), 100);
        for (int r = 0; r < 3; r++) {
            int replica = r;
            int length = Scenes.play(Scenes.FILLED).length(r);
            FILLED.due("2 first position when full", y -> y.insert(replica, 0, (char) 32), FULL);
            FILLED.due("2 last position when full", y -> y.insert(replica, length, (char) 126), FULL);
        }
    }

    private static void insertBadGoesBeforeFull() {
        int length = Scenes.play(Scenes.FILLED).length(1);
        FILLED.bad("2 full, position -1", x -> x.insert(1, -1, 'a'));
        FILLED.bad("2 full, position length + 1", x -> x.insert(1, length + 1, 'a'));
        FILLED.bad("2 full, character 31", x -> x.insert(1, 0, (char) 31));
        FILLED.bad("2 full, character 127", x -> x.insert(1, 0, (char) 127));
    }

    // Promise 3

    /** "at a position of its text". */
    private static void erasePositionIsBelowLength() {
        for (int r = 0; r < 3; r++) {
            int replica = r;
            int length = Scenes.play(Scenes.BUSY).length(r);
            due("3 position 0", Scenes.play(Scenes.BUSY).erase(r, 0), 10);
            due("3 position length - 1", Scenes.play(Scenes.BUSY).erase(r, length - 1), 10);
            BUSY.bad("3 position length", x -> x.erase(replica, length));
            BUSY.bad("3 position -1", x -> x.erase(replica, -1));
            BUSY.bad("3 least position", x -> x.erase(replica, LEAST));
            BUSY.bad("3 greatest position", x -> x.erase(replica, GREATEST));
            BUSY.bad("3 position 256", x -> x.erase(replica, 256));
            BUSY.bad("3 position 65536", x -> x.erase(replica, 65536));
        }
        TombstoneText x = new TombstoneText();
        Scenes.write(x, 0, "abc");
        x.erase(0, 2);
        due("3 the last is erased", Scenes.textOf(x, 0), "ab");
        x.erase(0, 0);
        due("3 the first is erased", Scenes.textOf(x, 0), "b");
    }

    private static void eraseOfAnEmptyText() {
        NEW.bad("3 no elements", x -> x.erase(0, 0));
        TombstoneText x = new TombstoneText();
        x.insert(0, 0, 'a');
        x.insert(0, 1, 'b');
        due("3 its only one", x.erase(0, 0) + x.erase(0, 0), 5);
        due("3 none is left", x.erase(0, 0), BAD);
        x.deliver(1, 1);
        due("3 it only waits", x.erase(1, 0), BAD);
        due("3 it is elsewhere", x.erase(2, 0), BAD);
        due("3 nothing was issued", x.operations(), 4);
    }

    private static void eraseNoReplica() {
        allowedAndNot("3 erase", 10, (x, r) -> x.erase(r, 0));
    }

    /** "FULL when 100 were issued". */
    private static void eraseFullWhen100WereIssued() {
        TombstoneText x = new TombstoneText();
        for (int i = 0; i < 99; i++) {
            x.insert(0, 0, 'a');
        }
        due("3 the hundredth", x.erase(0, 98), 99);
        due("3 the one after", x.erase(0, 97), FULL);
        due("3 the text is as it was", x.length(0), 98);
        due("3 hundred were issued", x.operations(), 100);
        for (int r = 0; r < 3; r++) {
            int replica = r;
            int length = Scenes.play(Scenes.FILLED).length(r);
            FILLED.due("3 first position when full", y -> y.erase(replica, 0), FULL);
            FILLED.due("3 last position when full", y -> y.erase(replica, length - 1), FULL);
        }
    }

    private static void eraseBadGoesBeforeFull() {
        int length = Scenes.play(Scenes.FILLED).length(2);
        FILLED.bad("3 full, position -1", x -> x.erase(2, -1));
        FILLED.bad("3 full, position length", x -> x.erase(2, length));
    }

    // Promise 4

    /** "Answers how many operations are applied by that": none, one, and all of a hundred. */
    private static void deliverAnswersHowManyAreApplied() {
        TombstoneText x = new TombstoneText();
        for (int i = 0; i < 100; i++) {
            x.insert(2, i, 'a');
        }
        due("4 one", x.deliver(0, 0), 1);
        due("4 none", x.deliver(0, 2), 0);
        due("4 itself and what it frees", x.deliver(0, 1), 2);
        for (int operation = 99; operation > 0; operation--) {
            due("4 none of the line", x.deliver(1, operation), 0);
        }
        due("4 all of the line", x.deliver(1, 0), 100);
        due("4 all are there", x.length(1), 100);
    }

    /** "0 also when it was applied there". */
    private static void deliverZeroWhenAppliedAlready() {
        for (int r = 0; r < 3; r++) {
            for (int o = 0; o < 5; o++) {
                int replica = r;
                int operation = o;
                BUSY.due("4 applied already", x -> x.deliver(replica, operation), 0);
            }
        }
        BUSY.due("4 its own, the latest", x -> x.deliver(1, 9), 0);
        BUSY.due("4 its own erase", x -> x.deliver(0, 7), 0);
        BUSY.due("4 what was collected", x -> x.deliver(0, 1), 0);
        FILLED.due("4 its own when full", x -> x.deliver(1, 99), 0);
    }

    /** "or waits there already". */
    private static void deliverZeroWhenItWaitsAlready() {
        due("4 one waits in the busy scene", Scenes.play(Scenes.BUSY).waiting(2), 1);
        BUSY.due("4 waits already", x -> x.deliver(2, 9), 0);
        due("4 one waits in the filled scene", Scenes.play(Scenes.FILLED).waiting(2), 1);
        FILLED.due("4 waits already", x -> x.deliver(2, 90), 0);
    }

    private static void deliverBad() {
        allowedAndNot("4 deliver", 0, (x, r) -> x.deliver(r, 0));
        operationsAllowedAndNot("4 deliver", (x, operation) -> x.deliver(2, operation));
    }

    // Promise 5

    /** "All operations that are applied at replica s are delivered". */
    private static void syncAllThatAreAppliedAndNoneThatWait() {
        TombstoneText x = new TombstoneText();
        for (int i = 0; i < 100; i++) {
            x.insert(0, i, 'a');
        }
        x.deliver(1, 0);
        x.deliver(1, 2);
        due("5 the one that is applied", x.sync(2, 1), 1);
        due("5 not the one that waits", x.waiting(2), 0);
        due("5 it waits where it was", x.waiting(1), 1);
        due("5 all but those that are there", x.sync(1, 0), 99);
        due("5 what waited is among them", x.waiting(1), 0);
        due("5 all by way of another", x.sync(2, 1), 99);
        due("5 no more", x.sync(2, 0), 0);
        due("5 all are there", x.length(2), 100);
    }

    private static void syncFromAnEmptyReplicaOrItself() {
        for (int i = 0; i < 9; i++) {
            int r = i / 3;
            int s = i % 3;
            NEW.due("5 of new replicas", x -> x.sync(r, s), 0);
        }
        for (int r = 0; r < 3; r++) {
            int replica = r;
            BUSY.due("5 itself", x -> x.sync(replica, replica), 0);
            FILLED.due("5 itself", x -> x.sync(replica, replica), 0);
        }
        TombstoneText x = new TombstoneText();
        x.insert(0, 0, 'a');
        x.insert(0, 1, 'b');
        x.deliver(1, 1);
        due("5 where all only waits", x.sync(2, 1), 0);
        due("5 nothing came", x.length(2) + x.waiting(2), 0);
    }

    /** "Refused: BAD (r or s)". */
    private static void syncBadFirstOrSecond() {
        allowedAndNot("5 sync to", 0, (x, r) -> x.sync(r, r == 0 ? 1 : 0));
        allowedAndNot("5 sync from", 0, (x, s) -> x.sync(s == 2 ? 0 : 2, s));
        allowedAndNot("5 sync both", 0, (x, r) -> x.sync(r, r));
    }

    // Promise 6

    private static void collectNothing() {
        for (int r = 0; r < 3; r++) {
            int replica = r;
            NEW.due("6 nothing there", x -> x.collect(replica), 0);
        }
        BUSY.due("6 collected already", x -> x.collect(0), 0);
        FILLED.due("6 nothing stable", x -> x.collect(0), 0);
        TombstoneText x = new TombstoneText();
        for (int r = 0; r < 3; r++) {
            x.insert(r, 0, 'a');
            Scenes.syncAll(x);
            x.insert(r, 0, 'b');
            Scenes.syncAll(x);
        }
        due("6 nothing erased", x.collect(0) + x.collect(1) + x.collect(2), 0);
    }

    /** As many as 100 operations leave room for: 49 elements, 49 erases, a word of each other. */
    private static void collectAllAtOnce() {
        TombstoneText x = new TombstoneText();
        for (int i = 0; i < 49; i++) {
            x.insert(0, i, 'a');
        }
        for (int i = 0; i < 49; i++) {
            x.erase(0, 0);
        }
        Scenes.syncAll(x);
        x.insert(1, 0, 'b');
        x.sync(0, 1);
        due("6 none before the last word", x.collect(0), 0);
        due("6 the last operation", x.insert(2, 0, 'c'), 99);
        x.sync(0, 2);
        due("6 all kept before", x.kept(0), 51);
        due("6 all at once", x.collect(0), 49);
        due("6 what isn't erased is kept", x.kept(0), 2);
        due("6 none again", x.collect(0), 0);
        due("6 elsewhere all are kept", x.kept(1), 50);
    }

    private static void collectBad() {
        allowedAndNot("6 collect", 0, (x, r) -> x.collect(r));
    }

    // Promise 7

    private static void lengthEdges() {
        TombstoneText x = new TombstoneText();
        due("7 none", x.length(0), 0);
        x.insert(0, 0, 'a');
        due("7 one", x.length(0), 1);
        x.erase(0, 0);
        due("7 none again", x.length(0), 0);
        for (int i = 2; i < 100; i++) {
            x.insert(0, 0, 'a');
        }
        due("7 most of them", x.length(0), 98);
        due("7 elsewhere none", x.length(1) + x.length(2), 0);
        allowedAndNot("7 length", 0, (y, r) -> y.length(r));
    }

    // Promise 8

    private static void atEdges() {
        for (int r = 0; r < 3; r++) {
            int replica = r;
            int length = Scenes.play(Scenes.BUSY).length(r);
            String text = Scenes.textOf(Scenes.play(Scenes.BUSY), r);
            BUSY.due("8 first", x -> x.at(replica, 0), text.charAt(0));
            BUSY.due("8 last", x -> x.at(replica, length - 1), text.charAt(length - 1));
            BUSY.bad("8 position length", x -> x.at(replica, length));
            BUSY.bad("8 position -1", x -> x.at(replica, -1));
            BUSY.bad("8 least position", x -> x.at(replica, LEAST));
            BUSY.bad("8 greatest position", x -> x.at(replica, GREATEST));
            BUSY.bad("8 position 256", x -> x.at(replica, 256));
            BUSY.bad("8 position 65536", x -> x.at(replica, 65536));
            NEW.bad("8 empty text", x -> x.at(replica, 0));
        }
        due("8 text of 0", Scenes.textOf(Scenes.play(Scenes.BUSY), 0), "xcyd");
        due("8 text of 1", Scenes.textOf(Scenes.play(Scenes.BUSY), 1), "pqaxcd");
        due("8 text of 2", Scenes.textOf(Scenes.play(Scenes.BUSY), 2), "acyd");
        TombstoneText x = new TombstoneText();
        Scenes.write(x, 0, " ~");
        x.erase(0, 1);
        due("8 where the erased one was", x.at(0, 1), BAD);
        due("8 before it", x.at(0, 0), 32);
        allowedAndNot("8 at", 0, (y, r) -> y.at(r, 0));
    }

    // Promise 9

    private static void positionEdges() {
        TombstoneText x = new TombstoneText();
        for (int i = 0; i < 100; i++) {
            x.insert(1, i, 'a');
        }
        due("9 first", x.position(1, 0), 0);
        due("9 last", x.position(1, 99), 99);
        due("9 behind the last", x.position(1, 100), BAD);
        allowedAndNot("9 position", 0, (y, r) -> y.position(r, 3));
        BUSY.bad("9 not issued yet", y -> y.position(1, 10));
        BUSY.due("9 issued last", y -> y.position(1, 9), 1);
        for (int operation : NEVER_OPERATIONS) {
            for (Quiet scene : ALL) {
                scene.bad("9 operation " + operation, y -> y.position(0, operation));
            }
        }
    }

    /** "BAD, also when the operation is an erase". */
    private static void positionBadForAnErase() {
        for (int r = 0; r < 3; r++) {
            int replica = r;
            BUSY.bad("9 an erase", x -> x.position(replica, 4));
            BUSY.bad("9 an erase, not applied everywhere", x -> x.position(replica, 7));
        }
        FILLED.bad("9 the last operation is an erase", x -> x.position(1, 99));
    }

    /** "isn't applied at r". */
    private static void positionBadWhenNotApplied() {
        BUSY.bad("9 not delivered", x -> x.position(2, 5));
        BUSY.bad("9 only waits", x -> x.position(2, 9));
        BUSY.due("9 applied where it was issued", x -> x.position(1, 5), 3);
        TombstoneText x = Scenes.play(Scenes.BUSY);
        x.sync(2, 1);
        due("9 waits no longer", x.position(2, 9), 1);
    }

    /** "or the element is erased at r". */
    private static void positionBadWhenErased() {
        BUSY.bad("9 erased here", x -> x.position(0, 0));
        BUSY.due("9 erased elsewhere only", x -> x.position(1, 0), 2);
        BUSY.bad("9 collected", x -> x.position(0, 1));
        BUSY.bad("9 erased and kept", x -> x.position(1, 1));
    }

    // Promise 10

    private static void sameEdges() {
        TombstoneText x = new TombstoneText();
        due("10 two empty texts", x.same(0, 2), true);
        Scenes.write(x, 0, "ab");
        due("10 with itself", x.same(0, 0), true);
        due("10 empty and not", x.same(0, 1) || x.same(1, 0), false);
        x.deliver(1, 0);
        due("10 one is the other's beginning", x.same(0, 1) || x.same(1, 0), false);
        x.deliver(1, 1);
        due("10 the last one too", x.same(0, 1) && x.same(1, 0), true);
        Scenes.write(x, 2, "bb");
        due("10 the first differs", x.same(0, 2) || x.same(2, 0), false);
        x.erase(2, 0);
        x.insert(2, 0, 'a');
        due("10 other elements of the same characters", x.same(0, 2) && x.same(2, 0), true);
        x.erase(2, 1);
        x.insert(2, 1, 'c');
        due("10 the last differs", x.same(0, 2) || x.same(2, 0), false);
        x.erase(0, 0);
        x.erase(0, 0);
        x.erase(2, 0);
        x.erase(2, 0);
        due("10 two texts empty again", x.same(0, 2), true);
    }

    private static void sameOfTheLongestTexts() {
        TombstoneText x = new TombstoneText();
        for (int i = 0; i < 49; i++) {
            x.insert(0, i, 'a');
            x.insert(2, i, 'a');
        }
        due("10 all the same", x.same(0, 2), true);
        x.insert(0, 49, 'b');
        due("10 one longer", x.same(0, 2), false);
        x.insert(2, 49, 'c');
        due("10 only the last differs", x.same(0, 2), false);
        x.sync(0, 2);
        due("10 twice as long", x.same(0, 2), false);
        x.sync(2, 0);
        due("10 of a hundred", x.same(0, 2), true);
        due("10 none of the hundred", x.same(0, 1), false);
    }

    /** "false when one of them is BAD", and also when both are. */
    private static void sameFalseWhenOneIsBad() {
        for (Quiet scene : ALL) {
            for (int wrong : NO_REPLICAS) {
                scene.isFalse("10 both " + wrong, x -> x.same(wrong, wrong));
                for (int r = 0; r < 3; r++) {
                    int replica = r;
                    scene.isFalse("10 first " + wrong, x -> x.same(wrong, replica));
                    scene.isFalse("10 second " + wrong, x -> x.same(replica, wrong));
                }
            }
        }
    }

    // Promise 11

    private static void operationsEdges() {
        NEW.due("11 none", x -> x.operations(), 0);
        BUSY.due("11 some", x -> x.operations(), 10);
        FILLED.due("11 all", x -> x.operations(), 100);
        TombstoneText x = new TombstoneText();
        for (int i = 0; i < 110; i++) {
            x.insert(i % 3, 0, 'a');
            due("11 after each", x.operations(), Math.min(i + 1, 100));
        }
        x = new TombstoneText();
        x.insert(0, 0, 'a');
        for (int i = 0; i < 10; i++) {
            x.erase(0, 1);
            x.insert(3, 0, 'a');
            x.sync(1, 0);
            x.deliver(2, 0);
            x.collect(0);
        }
        due("11 refused edits and deliveries aren't issued", x.operations(), 1);
    }

    // Promise 12

    private static void stampEdges() {
        for (int r = 0; r < 3; r++) {
            TombstoneText x = new TombstoneText();
            for (int i = 0; i < 100; i++) {
                x.insert(r, 0, 'a');
            }
            due("12 least of " + r, x.stamp(0), 4 + r);
            due("12 greatest of " + r, x.stamp(99), 400 + r);
            due("12 behind the last", x.stamp(100), BAD);
            due("12 before the first", x.stamp(-1), BAD);
        }
        operationsAllowedAndNot("12 stamp", (x, operation) -> x.stamp(operation));
    }

    // Promise 13

    private static void knownEdges() {
        TombstoneText x = new TombstoneText();
        for (int i = 0; i < 99; i++) {
            x.insert(0, 0, 'a');
        }
        x.sync(1, 0);
        due("13 none known", x.known(0, 1, 0), 0);
        x.insert(1, 0, 'b');
        x.sync(0, 1);
        due("13 all known", x.known(0, 1, 0), 99);
        due("13 its own one", x.known(0, 1, 1), 1);
        due("13 applied here", x.known(0, 0, 0), 99);
        x.sync(2, 0);
        due("13 all at once", x.known(2, 2, 0) + x.known(2, 2, 1) + x.known(2, 2, 2), 100);
    }

    /** "BAD when one of them is": whichever it is, and whatever the other two are. */
    private static void knownBadWhenOneOfThemIs() {
        for (int i = 0; i < 9; i++) {
            int one = i / 3;
            int other = i % 3;
            for (int wrong : NO_REPLICAS) {
                BUSY.bad("13 first " + wrong, x -> x.known(wrong, one, other));
                BUSY.bad("13 second " + wrong, x -> x.known(one, wrong, other));
                BUSY.bad("13 third " + wrong, x -> x.known(one, other, wrong));
            }
        }
        BUSY.bad("13 -1 and 3 make up for one another", x -> x.known(0, -1, 3));
        BUSY.bad("13 1 and -3 make up for one another", x -> x.known(0, 1, -3));
        BUSY.bad("13 all three", x -> x.known(-1, -1, -1));
        NEW.bad("13 new object", x -> x.known(0, 1, 3));
        for (int i = 0; i < 27; i++) {
            int each = i;
            NEW.due("13 allowed", x -> x.known(each / 9, each / 3 % 3, each % 3), 0);
        }
    }

    // Promise 14

    private static void stableEdges() {
        due("14 the last stable one", Scenes.play(Scenes.BUSY).stable(0, 4), true);
        BUSY.isFalse("14 the first that isn't", x -> x.stable(0, 5));
        BUSY.isFalse("14 the last issued", x -> x.stable(1, 9));
        BUSY.isFalse("14 not issued yet", x -> x.stable(1, 10));
        BUSY.isFalse("14 not applied", x -> x.stable(2, 5));
        BUSY.isFalse("14 only waits", x -> x.stable(2, 9));
        NEW.isFalse("14 no operations", x -> x.stable(0, 0));
    }

    /** "false when one of them is BAD". */
    private static void stableFalseWhenOneIsBad() {
        for (Quiet scene : ALL) {
            for (int wrong : NO_REPLICAS) {
                scene.isFalse("14 replica " + wrong, x -> x.stable(wrong, 0));
                scene.isFalse("14 both " + wrong, x -> x.stable(wrong, -1));
            }
            for (int wrong : NEVER_OPERATIONS) {
                scene.isFalse("14 operation " + wrong, x -> x.stable(0, wrong));
            }
        }
    }

    // Promise 15

    private static void keptEdges() {
        TombstoneText x = new TombstoneText();
        for (int i = 0; i < 100; i++) {
            x.insert(0, 0, 'a');
            due("15 each one", x.kept(0), i + 1);
        }
        due("15 none", x.kept(1), 0);
        x.deliver(1, 1);
        due("15 none, one waits", x.kept(1), 0);
        x.sync(1, 0);
        due("15 all", x.kept(1), 100);
        BUSY.due("15 without the collected one", y -> y.kept(0), 5);
        BUSY.due("15 with the erased one", y -> y.kept(1), 7);
        allowedAndNot("15 kept", 0, (y, r) -> y.kept(r));
    }

    // Promise 16

    private static void waitingEdges() {
        TombstoneText x = new TombstoneText();
        for (int i = 0; i < 100; i++) {
            x.insert(0, 0, 'a');
        }
        due("16 none", x.waiting(1), 0);
        for (int operation = 99; operation > 0; operation--) {
            x.deliver(1, operation);
            due("16 each one", x.waiting(1), 100 - operation);
        }
        x.deliver(1, 0);
        due("16 none again", x.waiting(1), 0);
        due("16 its own never do", x.waiting(0), 0);
        allowedAndNot("16 waiting", 0, (y, r) -> y.waiting(r));
    }

    /** In the busy scene the replicas 0, 1, 2 are allowed; no other is, in any scene. */
    private static void allowedAndNot(String what, int least, ToIntBiFunction<TombstoneText, Integer> call) {
        for (int r = 0; r < 3; r++) {
            int answer = call.applyAsInt(Scenes.play(Scenes.BUSY), r);
            due(what + ", replica " + r + " is allowed", answer >= least, true);
        }
        for (Quiet scene : ALL) {
            for (int wrong : NO_REPLICAS) {
                scene.bad(what + ", replica " + wrong, x -> call.applyAsInt(x, wrong));
            }
        }
    }

    /** The operations 0 to the last that was issued are allowed, and no other. */
    private static void operationsAllowedAndNot(String what, ToIntBiFunction<TombstoneText, Integer> call) {
        for (int operation = 0; operation < 100; operation++) {
            int answer = call.applyAsInt(Scenes.play(Scenes.BUSY), operation);
            due(what + ", operation " + operation + " of 10", answer >= 0, operation < 10);
            answer = call.applyAsInt(Scenes.play(Scenes.FILLED), operation);
            due(what + ", operation " + operation + " of 100", answer >= 0, true);
        }
        NEW.bad(what + ", operation 0 of none", x -> call.applyAsInt(x, 0));
        BUSY.bad(what + ", operation 10 of 10", x -> call.applyAsInt(x, 10));
        BUSY.bad(what + ", operation 99 of 10", x -> call.applyAsInt(x, 99));
        for (Quiet scene : ALL) {
            for (int wrong : NEVER_OPERATIONS) {
                scene.bad(what + ", operation " + wrong, x -> call.applyAsInt(x, wrong));
            }
        }
    }

    private static void due(String what, long got, long want) {
        CHECK.due(what, got, want);
    }

    private static void due(String what, boolean got, boolean want) {
        CHECK.due(what, got, want);
    }

    private static void due(String what, String got, String want) {
        CHECK.due(what, got, want);
    }
}
