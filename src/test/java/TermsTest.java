import java.util.function.Consumer;

/**
 * Each sentence of "What it is" and of "Terms" has a test here, with the sentence above it;
 * where it names a boundary, the last case on the one side and the first on the other.
 */
public final class TermsTest {
    private static final int BAD = TombstoneText.BAD;
    private static final int FULL = TombstoneText.FULL;
    /** Each way in which the three replicas can take three parts. */
    private static final int[][] PARTS = {{0, 1, 2}, {0, 2, 1}, {1, 0, 2}, {1, 2, 0}, {2, 0, 1}, {2, 1, 0}};

    private static final Check CHECK = new Check("TermsTest");

    public static void main(String[] args) {
        arrivesInWhateverOrderAndHoweverOften();
        usedFor512Calls();
        replicasAreThree();
        charactersAreAllKept();
        elementIsKnownByItsInsert();
        numberedFromZeroInOrderOfIssue();
        atMost100ByInserts();
        atMost100ByErases();
        atMost100WhateverWasCollected();
        eachHasTheReplicaThatIssuedIt();
        placeInLineIsOfItsReplica();
        placedAfterTheStart();
        placedAfterAnElement();
        appliesItsOwnAtOnce();
        waitsWhenDeliveredAndNotApplied();
        readyWhenNextInLine();
        readyWhenAsManyAreAppliedAsItsClockSays();
        readyWhenBothHold();
        appliedAsLongAsOneIsReady();
        whichIsAppliedFirstMakesNoDifference();
        appliedStaysAndNotTwice();
        stampIsOneWhenThereWereNone();
        stampIsOneMoreThanTheGreatest();
        stampCountsWhatIsAppliedOnly();
        clockIncludesItself();
        clockIsOfTheMomentOfIssue();
        greatestStampFirst();
        ofEqualStampsTheGreaterReplicaFirst();
        rightBehindEachThoseAfterIt();
        textBeginsWithTheFirstAfterTheStart();
        erasedWhenAnEraseIsApplied();
        positionsHaveNoGaps();
        knownIsZeroWhenNoneIsApplied();
        knownOfItselfIsWhatIsApplied();
        knownIsByTheLatestInLine();
        stableWhenKnownIsAtLeastItsPlace();
        stableOnlyWhenAppliedThere();
        stableForEachOfTheThree();
        collectedWhenAnEraseIsStable();
        collectedWhenOneOfItsErasesIsStable();
        collectedWhenAllAfterItAreStable();
        collectedThoughWhatIsFurtherIsNotStable();
        collectedAtEachReplicaByItself();
        collectedOnlyOnce();
        keptOtherwise();
        collectingChangesNoText();
        refusedChangesNothing();
        CHECK.end();
    }

    // What it is

    /** "in whatever order and however often they arrive": each way that six can come. */
    private static void arrivesInWhateverOrderAndHoweverOften() {
        String inOrder = Reading.after(x -> deliverSixTwice(x, new int[] {0, 1, 2, 3, 4, 5}));
        int[] order = {0, 1, 2, 3, 4, 5};
        int ways = 0;
        do {
            int[] way = order.clone();
            due("six as they come", Reading.after(x -> deliverSixTwice(x, way)).equals(inOrder), true);
            ways++;
        } while (goToNextOrder(order));
        due("ways", ways, 720);
    }

    /** Two replicas write, one builds on the other, and the third receives each twice. */
    private static void deliverSixTwice(TombstoneText x, int[] order) {
        Scenes.write(x, 1, "ab");
        x.deliver(0, 0);
        x.insert(0, 1, 'c');
        x.insert(1, 1, 'd');
        x.erase(0, 0);
        x.deliver(1, 2);
        x.insert(1, 4, 'e');
        for (int operation : order) {
            x.deliver(2, operation);
            x.deliver(2, operation);
        }
    }

    /** The next in the order of a dictionary; false behind the last. */
    private static boolean goToNextOrder(int[] order) {
        int i = order.length - 2;
        while (i >= 0 && order[i] > order[i + 1]) {
            i--;
        }
        if (i < 0) {
            return false;
        }
        int next = order.length - 1;
        while (order[next] < order[i]) {
            next--;
        }
        swap(order, i, next);
        for (int low = i + 1, high = order.length - 1; low < high; low++, high--) {
            swap(order, low, high);
        }
        return true;
    }

    private static void swap(int[] row, int i, int j) {
        int one = row[i];
        row[i] = row[j];
        row[j] = one;
    }

    /** "An object is used for at most 512 calls after it has been made". */
    private static void usedFor512Calls() {
        for (int last = 1; last <= 512; last++) {
            TombstoneText x = new TombstoneText();
            for (int call = 1; call < last; call++) {
                x.length(call % 5 - 1);
            }
            due("call " + last + " issues the first", x.insert(2, 0, 'a'), 0);
        }
        TombstoneText x = new TombstoneText();
        for (int call = 1; call <= 512; call++) {
            due("edit in call " + call, x.insert(0, 0, 'a'), call <= 100 ? call - 1 : FULL);
        }
        x = new TombstoneText();
        for (int call = 1; call <= 510; call++) {
            x.insert(0, 0, 'a');
        }
        due("call 511 brings all", x.sync(1, 0), 100);
        due("call 512 tells of the last", x.at(1, 99), 'a');
    }

    // Terms: operations

    /** "REPLICAS are 0, 1, 2." Each has a text of its own. */
    private static void replicasAreThree() {
        TombstoneText x = new TombstoneText();
        due("issue", x.insert(0, 0, 'a') + x.insert(1, 0, 'b') + x.insert(2, 0, 'c'), 3);
        due("text of 0", Scenes.textOf(x, 0), "a");
        due("text of 1", Scenes.textOf(x, 1), "b");
        due("text of 2", Scenes.textOf(x, 2), "c");
        due("below the first", x.length(-1), BAD);
        due("above the last", x.length(3), BAD);
    }

    /** "an INSERT of a character (32 .. 126)": each is read as it was written, everywhere. */
    private static void charactersAreAllKept() {
        TombstoneText x = new TombstoneText();
        for (int c = 32; c <= 126; c++) {
            x.insert(1, c - 32, (char) c);
        }
        due("all were issued", x.operations(), 95);
        due("31", x.insert(1, 0, (char) 31), BAD);
        due("127", x.insert(1, 0, (char) 127), BAD);
        x.sync(2, 1);
        for (int c = 32; c <= 126; c++) {
            due("where it was issued " + c, x.at(1, c - 32), c);
            due("where it was delivered " + c, x.at(2, c - 32), c);
        }
    }

    /** "an element is what an insert made, and is known by that insert": not by its character. */
    private static void elementIsKnownByItsInsert() {
        TombstoneText x = new TombstoneText();
        Scenes.write(x, 0, "aaa");
        x.insert(0, 0, 'a');
        x.erase(0, 2);
        due("the last made stands first", x.position(0, 3), 0);
        due("the first made", x.position(0, 0), 1);
        due("the one that was erased", x.position(0, 1), BAD);
        due("the one behind it", x.position(0, 2), 2);
        due("an erase makes none", x.position(0, 4), BAD);
        due("nor is it kept as one", x.kept(0), 4);
        x.sync(1, 0);
        due("it is the same elsewhere", x.position(1, 2), 2);
        due("the erase took the same one", x.position(1, 1), BAD);
    }

    /** "numbered from 0 in the order in which they are issued, over all replicas". */
    private static void numberedFromZeroInOrderOfIssue() {
        TombstoneText x = new TombstoneText();
        due("first", x.insert(2, 0, 'a'), 0);
        due("refused takes none", x.insert(2, 2, 'a'), BAD);
        due("other replica", x.insert(0, 0, 'b'), 1);
        due("erase", x.erase(2, 0), 2);
        due("refused erase takes none", x.erase(2, 0), BAD);
        x.sync(1, 2);
        x.collect(2);
        due("delivering takes none", x.insert(1, 0, 'c'), 3);
    }

    /** "at most 100 are issued": over all replicas together, by inserts. */
    private static void atMost100ByInserts() {
        TombstoneText x = new TombstoneText();
        for (int i = 0; i < 100; i++) {
            due("insert " + i, x.insert(i % 3, 0, 'a'), i);
        }
        for (int r = 0; r < 3; r++) {
            due("insert at " + r, x.insert(r, 0, 'a'), FULL);
            due("erase at " + r, x.erase(r, 0), FULL);
            due("length of " + r, x.length(r), r == 0 ? 34 : 33);
            due("applied at " + r, x.known(r, r, r), r == 0 ? 34 : 33);
        }
        due("issued", x.operations(), 100);
    }

    /** "at most 100 are issued": erases count as inserts do. */
    private static void atMost100ByErases() {
        TombstoneText x = new TombstoneText();
        for (int i = 0; i < 100; i += 2) {
            due("insert " + i, x.insert(1, 0, 'a'), i);
            due("erase " + i, x.erase(1, 0), i + 1);
        }
        due("insert", x.insert(1, 0, 'a'), FULL);
        due("erase of nothing", x.erase(1, 0), BAD);
        due("elements", x.kept(1), 50);
        due("all are delivered", x.sync(0, 1), 100);
        due("all are erased", x.length(0), 0);
    }

    /** "at most 100 are issued": collecting makes no room for more. */
    private static void atMost100WhateverWasCollected() {
        TombstoneText x = new TombstoneText();
        for (int i = 0; i < 49; i++) {
            x.insert(0, 0, 'a');
            x.erase(0, 0);
        }
        Scenes.syncAll(x);
        x.insert(1, 0, 'b');
        x.insert(2, 0, 'c');
        Scenes.syncAll(x);
        due("collected", x.collect(0), 49);
        due("insert", x.insert(0, 0, 'a'), FULL);
        due("erase", x.erase(0, 0), FULL);
        due("issued", x.operations(), 100);
    }

    /** "Each has the replica that issued it": it stays so wherever it is delivered. */
    private static void eachHasTheReplicaThatIssuedIt() {
        for (int[] part : PARTS) {
            TombstoneText x = new TombstoneText();
            x.insert(part[0], 0, 'a');
            x.sync(part[1], part[0]);
            x.insert(part[1], 1, 'b');
            x.sync(part[2], part[1]);
            x.erase(part[2], 0);
            Scenes.syncAll(x);
            for (int operation = 0; operation < 3; operation++) {
                due("issued by", x.stamp(operation) % 4, part[operation]);
                due("in its line", x.known(0, 0, part[operation]), 1);
            }
        }
    }

    /** "its PLACE IN LINE (it is that replica's 1st, 2nd, .. operation)". */
    private static void placeInLineIsOfItsReplica() {
        TombstoneText x = new TombstoneText();
        Scenes.write(x, 0, "ab");
        due("1st in line though 3rd of all", x.insert(1, 0, 'c'), 2);
        due("2nd in line", x.insert(1, 1, 'd'), 3);
        due("the 2nd waits", x.deliver(2, 3), 0);
        due("the 1st needs none before it", x.deliver(2, 2), 2);
        due("text", Scenes.textOf(x, 2), "cd");
        due("in line", x.known(2, 1, 1), 2);
    }

    /** "An insert is placed AFTER an element, or after the START of the text." */
    private static void placedAfterTheStart() {
        TombstoneText x = new TombstoneText();
        x.insert(0, 0, 'a');
        x.sync(1, 0);
        x.erase(0, 0);
        x.insert(0, 0, 's');
        Scenes.write(x, 2, "uvwxyz");
        x.sync(1, 2);
        x.insert(1, 7, 'k');
        x.sync(0, 1);
        due("before the erased one, not behind it", Scenes.textOf(x, 0), "suvwxyzk");
    }

    private static void placedAfterAnElement() {
        TombstoneText x = new TombstoneText();
        Scenes.write(x, 0, "abc");
        x.sync(1, 0);
        x.erase(0, 1);
        x.insert(0, 1, 's');
        x.insert(1, 2, 'k');
        x.sync(0, 1);
        due("after the one before it that is there", Scenes.textOf(x, 0), "askc");
        x.sync(1, 0);
        due("and so elsewhere", Scenes.textOf(x, 1), "askc");
    }

    // Terms: applying

    /** "Each replica APPLIES its own operations when it issues them." */
    private static void appliesItsOwnAtOnce() {
        for (int r = 0; r < 3; r++) {
            TombstoneText x = new TombstoneText();
            x.insert(r, 0, 'a');
            due("in the text", x.at(r, 0), 'a');
            due("applied", x.known(r, r, r), 1);
            due("doesn't wait", x.waiting(r), 0);
            due("delivered to itself", x.deliver(r, 0), 0);
            due("doesn't wait now", x.waiting(r), 0);
            due("elsewhere it isn't", x.length((r + 1) % 3) + x.length((r + 2) % 3), 0);
            due("nor does it wait", x.waiting((r + 1) % 3) + x.waiting((r + 2) % 3), 0);
        }
    }

    /** "An operation that is delivered to a replica and isn't applied there WAITS there." */
    private static void waitsWhenDeliveredAndNotApplied() {
        TombstoneText x = new TombstoneText();
        Scenes.write(x, 0, "ab");
        due("applied", x.deliver(1, 0), 1);
        due("applied doesn't wait", x.waiting(1), 0);
        due("not applied", x.deliver(2, 1), 0);
        due("not applied waits", x.waiting(2), 1);
        due("it isn't in the text", x.length(2), 0);
        due("it waits there only", x.waiting(0) + x.waiting(1), 0);
        x.insert(2, 0, 'c');
        due("an own edit doesn't free it", x.waiting(2), 1);
    }

    /** "next in line (as many .. as come before it in line, and no more, are applied at r)". */
    private static void readyWhenNextInLine() {
        for (int[] part : PARTS) {
            TombstoneText x = new TombstoneText();
            Scenes.write(x, part[0], "abcd");
            due("two are missing", x.deliver(part[1], 2), 0);
            due("none is missing", x.deliver(part[1], 0), 1);
            due("one was missing", x.deliver(part[1], 1), 2);
            due("as many as come before it", x.deliver(part[1], 3), 1);
            due("more than come before it", x.deliver(part[1], 2), 0);
            due("applied", x.known(part[1], part[1], part[0]), 4);
        }
    }

    /** "for each other replica j at least as many operations of j are applied at r as its clock says". */
    private static void readyWhenAsManyAreAppliedAsItsClockSays() {
        for (int[] part : PARTS) {
            for (int applied = 0; applied <= 3; applied++) {
                TombstoneText x = new TombstoneText();
                Scenes.write(x, part[0], "abc");
                x.deliver(part[1], 0);
                x.deliver(part[1], 1);
                x.insert(part[1], 0, 'd');
                for (int operation = 0; operation < applied; operation++) {
                    x.deliver(part[2], operation);
                }
                due("clock says 2, applied " + applied, x.deliver(part[2], 3), applied >= 2 ? 1 : 0);
                due("waits, applied " + applied, x.waiting(part[2]), applied >= 2 ? 0 : 1);
            }
        }
    }

    /** Next in line alone isn't enough, nor is what its clock says of others. */
    private static void readyWhenBothHold() {
        for (int[] part : PARTS) {
            TombstoneText x = new TombstoneText();
            x.insert(part[1], 0, 'b');
            x.insert(part[0], 0, 'a');
            x.deliver(part[1], 1);
            x.insert(part[1], 0, 'c');
            due("neither", x.deliver(part[2], 2), 0);
            due("next in line only", x.deliver(part[2], 0), 1);
            due("both", x.deliver(part[2], 1), 2);

            x = new TombstoneText();
            x.insert(part[1], 0, 'b');
            x.insert(part[0], 0, 'a');
            x.deliver(part[1], 1);
            x.insert(part[1], 0, 'c');
            x.deliver(part[2], 2);
            due("the others' only", x.deliver(part[2], 1), 1);
            due("both at last", x.deliver(part[2], 0), 2);
        }
    }

    /** "As long as an operation that waits is ready, it is applied": a chain of a hundred. */
    private static void appliedAsLongAsOneIsReady() {
        for (int[] part : PARTS) {
            TombstoneText x = chainOfTwo(part);
            for (int operation = 99; operation > 0; operation--) {
                due("waits from the end", x.deliver(part[2], operation), 0);
            }
            due("all wait", x.waiting(part[2]), 99);
            due("all follow", x.deliver(part[2], 0), 100);
            due("none waits", x.waiting(part[2]), 0);

            x = chainOfTwo(part);
            for (int operation = 1; operation < 50; operation++) {
                x.deliver(part[2], operation);
            }
            for (int operation = 51; operation < 100; operation++) {
                x.deliver(part[2], operation);
            }
            due("up to the gap", x.deliver(part[2], 0), 50);
            due("behind the gap", x.waiting(part[2]), 49);
            due("the rest", x.deliver(part[2], 50), 50);
        }
    }

    /** Two replicas take turns, and each builds on all that the other has issued. */
    private static TombstoneText chainOfTwo(int[] part) {
        TombstoneText x = new TombstoneText();
        for (int i = 0; i < 100; i++) {
            x.insert(part[i % 2], 0, 'a');
            x.deliver(part[(i + 1) % 2], i);
        }
        return x;
    }

    /** "(Which of several is applied first makes no difference.)": three are ready at once. */
    private static void whichIsAppliedFirstMakesNoDifference() {
        for (int[] part : PARTS) {
            String byNumbers = Reading.after(x -> freeThree(x, new int[] {1, 2, 3}));
            String byPart = Reading.after(x -> freeThree(x, new int[] {part[0] + 1, part[1] + 1, part[2] + 1}));
            due("three by way of " + part[0] + part[1] + part[2], byPart.equals(byNumbers), true);
        }
        TombstoneText x = new TombstoneText();
        freeThree(x, new int[] {3, 2, 1});
        due("one frees three, of two replicas", Scenes.textOf(x, 2), "bdac");
    }

    /** Three build on the first; each of them waits until it comes. */
    private static void freeThree(TombstoneText x, int[] order) {
        x.insert(0, 0, 'a');
        x.deliver(1, 0);
        x.insert(1, 0, 'b');
        x.insert(0, 1, 'c');
        x.insert(1, 1, 'd');
        for (int operation : order) {
            x.deliver(2, operation);
        }
        x.deliver(2, 0);
    }

    /** "What is applied stays so; nothing is applied twice." */
    private static void appliedStaysAndNotTwice() {
        TombstoneText x = new TombstoneText();
        Scenes.write(x, 0, "abc");
        x.erase(0, 1);
        x.sync(1, 0);
        for (int operation = 0; operation < 4; operation++) {
            due("again where it was issued", x.deliver(0, operation), 0);
            due("again where it was delivered", x.deliver(1, operation), 0);
        }
        due("synced again", x.sync(1, 0) + x.sync(0, 1), 0);
        for (int r = 0; r < 2; r++) {
            due("text of " + r, Scenes.textOf(x, r), "ac");
            due("kept at " + r, x.kept(r), 3);
            due("waits at " + r, x.waiting(r), 0);
            due("applied at " + r, x.known(r, r, 0), 4);
        }
    }

    // Terms: stamp and clock

    /** "(1 when there were none)": whatever is applied elsewhere. */
    private static void stampIsOneWhenThereWereNone() {
        TombstoneText x = new TombstoneText();
        Scenes.write(x, 1, "abc");
        x.insert(0, 0, 'd');
        due("replica 1's first", x.stamp(0), 4 + 1);
        due("replica 0's first", x.stamp(3), 4);
        x.deliver(2, 1);
        x.insert(2, 0, 'e');
        due("replica 2's first, one waits there", x.stamp(4), 4 + 2);
    }

    /** "1 more than the greatest stamp of the operations that were applied at its replica". */
    private static void stampIsOneMoreThanTheGreatest() {
        TombstoneText x = new TombstoneText();
        Scenes.write(x, 0, "abc");
        x.insert(1, 0, 'd');
        x.deliver(1, 0);
        x.insert(1, 0, 'e');
        due("an equal one came", x.stamp(4), 4 * 2 + 1);
        x.deliver(1, 1);
        x.deliver(1, 2);
        x.insert(1, 0, 'f');
        due("one that is greater by one came", x.stamp(5), 4 * 4 + 1);
        x.deliver(0, 3);
        x.insert(0, 0, 'g');
        due("a lesser one came last", x.stamp(6), 4 * 4);
        x.erase(0, 0);
        due("erases have stamps", x.stamp(7), 4 * 5);
        x.insert(0, 0, 'h');
        due("and count for them", x.stamp(8), 4 * 6);
        x.sync(2, 0);
        x.insert(2, 0, 'i');
        due("by what was synced", x.stamp(9), 4 * 7 + 2);
    }

    private static void stampCountsWhatIsAppliedOnly() {
        TombstoneText x = new TombstoneText();
        Scenes.write(x, 0, "abc");
        x.deliver(1, 2);
        x.deliver(1, 0);
        x.insert(1, 0, 'd');
        due("the third waits", x.stamp(3), 4 * 2 + 1);
        x.deliver(1, 1);
        x.insert(1, 0, 'e');
        due("the third waits no more", x.stamp(4), 4 * 4 + 1);
    }

    /** "right after it was issued (itself included)". */
    private static void clockIncludesItself() {
        for (int[] part : PARTS) {
            TombstoneText x = new TombstoneText();
            x.insert(part[0], 0, 'a');
            x.deliver(part[1], 0);
            due("the first includes itself", x.known(part[1], part[0], part[0]), 1);
            x.insert(part[0], 0, 'b');
            x.deliver(part[1], 1);
            due("the second includes both", x.known(part[1], part[0], part[0]), 2);
            due("of others none", x.known(part[1], part[0], part[1]) + x.known(part[1], part[0], part[2]), 0);
        }
    }

    /** "right after it was issued": what came to its replica later isn't in it. */
    private static void clockIsOfTheMomentOfIssue() {
        for (int[] part : PARTS) {
            TombstoneText x = new TombstoneText();
            x.insert(part[2], 0, 'c');
            x.insert(part[0], 0, 'a');
            x.deliver(part[0], 0);
            x.deliver(part[1], 1);
            due("came later", x.known(part[1], part[0], part[2]), 0);
            due("it builds on nothing", x.length(part[1]), 1);
            x.insert(part[0], 0, 'b');
            due("it came before the next", x.deliver(part[1], 2), 0);
            due("which waits for it", x.deliver(part[1], 0), 2);
            due("and tells of it", x.known(part[1], part[0], part[2]), 1);
        }
    }

    // Terms: order

    /** "by their inserts' stamps, the greatest first": by one greater, of a lesser replica. */
    private static void greatestStampFirst() {
        for (int[] part : PARTS) {
            TombstoneText x = new TombstoneText();
            x.insert(part[2], 0, 'p');
            x.sync(part[0], part[2]);
            x.sync(part[1], part[2]);
            x.insert(part[0], 0, 'q');
            x.insert(part[0], 2, 'g');
            x.insert(part[1], 1, 'l');
            x.sync(part[0], part[1]);
            x.sync(part[1], part[0]);
            due("after an element, it was there", Scenes.textOf(x, part[0]), "qpgl");
            due("after an element, it came later", Scenes.textOf(x, part[1]), "qpgl");
            x.sync(part[2], part[1]);
            due("after an element, where both came", Scenes.textOf(x, part[2]), "qpgl");

            x = new TombstoneText();
            x.insert(part[1], 0, 'l');
            x.insert(part[0], 0, 'a');
            x.insert(part[0], 0, 'g');
            x.insert(part[0], 0, 'h');
            x.sync(part[1], part[0]);
            x.sync(part[0], part[1]);
            String due = part[0] > part[1] ? "hgal" : "hgla";
            due("after the start, they were there", Scenes.textOf(x, part[0]), due);
            due("after the start, they came later", Scenes.textOf(x, part[1]), due);
        }
    }

    /** "of equal stamps the one of the greater replica first": whichever was there first. */
    private static void ofEqualStampsTheGreaterReplicaFirst() {
        for (int[] part : PARTS) {
            TombstoneText x = new TombstoneText();
            x.insert(part[0], 0, (char) ('0' + part[0]));
            x.insert(part[1], 0, (char) ('0' + part[1]));
            x.deliver(part[0], 1);
            x.deliver(part[1], 0);
            x.deliver(part[2], 0);
            x.deliver(part[2], 1);
            String due = part[0] > part[1] ? "" + part[0] + part[1] : "" + part[1] + part[0];
            for (int r = 0; r < 3; r++) {
                due("two after the start", Scenes.textOf(x, r), due);
            }

            x = new TombstoneText();
            x.insert(part[0], 0, 'p');
            Scenes.syncAll(x);
            for (int i = 0; i < 3; i++) {
                x.insert(part[i], 1, (char) ('0' + part[i]));
            }
            Scenes.syncAll(x);
            for (int r = 0; r < 3; r++) {
                due("three after an element", Scenes.textOf(x, r), "p210");
            }
        }
    }

    /** "right behind each element, before the next one of these, come those that are placed after it". */
    private static void rightBehindEachThoseAfterIt() {
        for (int[] part : PARTS) {
            TombstoneText x = new TombstoneText();
            Scenes.write(x, part[0], "abcdef");
            Scenes.write(x, part[1], "uv");
            x.insert(part[0], 1, 'x');
            x.insert(part[1], 1, 'y');
            Scenes.syncAll(x);
            String due = part[0] > part[1] ? "axbcdefuyv" : "uyvaxbcdef";
            for (int r = 0; r < 3; r++) {
                due("a line isn't broken by another", Scenes.textOf(x, r), due);
            }
            int end = x.position(part[2], 5);
            x.insert(part[2], end + 1, 'z');
            Scenes.syncAll(x);
            due("each with those after it", x.position(part[1], 10), end + 1);
        }
    }

    /** "So the text begins with the first one that is placed after the start." */
    private static void textBeginsWithTheFirstAfterTheStart() {
        TombstoneText x = new TombstoneText();
        x.insert(2, 0, 'a');
        x.sync(0, 2);
        x.insert(2, 1, 'b');
        x.insert(2, 2, 'c');
        x.insert(2, 3, 'd');
        x.insert(0, 0, 's');
        x.sync(2, 0);
        x.sync(1, 2);
        due("a lesser stamp than those behind", Scenes.textOf(x, 1), "sabcd");
        x.erase(1, 0);
        due("the first that isn't erased", Scenes.textOf(x, 1), "abcd");
    }

    /** "ERASED at a replica when an erase of it is applied there." */
    private static void erasedWhenAnEraseIsApplied() {
        TombstoneText x = new TombstoneText();
        Scenes.write(x, 0, "ab");
        x.sync(1, 0);
        x.insert(1, 2, 'c');
        x.erase(1, 0);
        x.deliver(0, 3);
        due("the erase waits", Scenes.textOf(x, 0), "ab");
        x.erase(0, 0);
        due("another erase is applied", Scenes.textOf(x, 0), "b");
        due("elsewhere it isn't", Scenes.textOf(x, 2), "");
        due("the first follows", x.deliver(0, 2), 2);
        due("erased twice is erased once", Scenes.textOf(x, 0), "bc");
        due("all are kept", x.kept(0), 3);
        due("one erase is applied", x.sync(2, 1), 4);
        due("one erase is enough", Scenes.textOf(x, 2), "bc");
    }

    /** "at the POSITIONS 0, 1, .. ". */
    private static void positionsHaveNoGaps() {
        TombstoneText x = new TombstoneText();
        Scenes.write(x, 0, "abcde");
        x.erase(0, 4);
        x.erase(0, 2);
        x.erase(0, 0);
        due("first", x.position(0, 1), 0);
        due("second", x.position(0, 3), 1);
        due("first character", x.at(0, 0), 'b');
        due("second character", x.at(0, 1), 'd');
        due("no third", x.at(0, 2), BAD);
        due("none before the first", x.at(0, -1), BAD);
        due("two", x.length(0), 2);
    }

    // Terms: known and stable

    /** "0 when none is": also when the other has applied some, and when its word only waits. */
    private static void knownIsZeroWhenNoneIsApplied() {
        for (int[] part : PARTS) {
            TombstoneText x = new TombstoneText();
            x.insert(part[0], 0, 'a');
            x.insert(part[0], 0, 'b');
            x.sync(part[1], part[0]);
            due("no word of it", x.known(part[0], part[1], part[0]), 0);
            x.insert(part[1], 0, 'c');
            due("its word was not delivered", x.known(part[0], part[1], part[0]), 0);
            x.deliver(part[2], 2);
            due("its word waits", x.known(part[2], part[1], part[0]), 0);
            due("of itself too", x.known(part[2], part[1], part[1]), 0);
            x.deliver(part[0], 2);
            due("its word is applied", x.known(part[0], part[1], part[0]), 2);
            due("no word of the third", x.known(part[0], part[2], part[0]), 0);
        }
    }

    /** "for i = r how many of j's are applied at r". */
    private static void knownOfItselfIsWhatIsApplied() {
        for (int[] part : PARTS) {
            TombstoneText x = new TombstoneText();
            Scenes.write(x, part[0], "abc");
            due("its own", x.known(part[0], part[0], part[0]), 3);
            x.deliver(part[1], 0);
            due("one came", x.known(part[1], part[1], part[0]), 1);
            x.deliver(part[1], 2);
            due("one waits", x.known(part[1], part[1], part[0]), 1);
            x.deliver(part[1], 1);
            due("two more", x.known(part[1], part[1], part[0]), 3);
            due("of its own none", x.known(part[1], part[1], part[1]), 0);
            due("of the third none", x.known(part[1], part[1], part[2]), 0);
        }
    }

    /** "the clock of the latest operation of i (in i's line) that is applied at r". */
    private static void knownIsByTheLatestInLine() {
        for (int[] part : PARTS) {
            TombstoneText x = new TombstoneText();
            x.insert(part[0], 0, 'a');
            x.deliver(part[1], 0);
            x.insert(part[1], 0, 'b');
            x.insert(part[0], 0, 'c');
            x.deliver(part[1], 2);
            x.insert(part[1], 0, 'd');
            x.deliver(part[0], 3);
            due("the latest waits", x.known(part[0], part[1], part[0]), 0);
            x.deliver(part[0], 1);
            due("the latest, though it came first", x.known(part[0], part[1], part[0]), 2);
            x.deliver(part[0], 1);
            due("an earlier one came again", x.known(part[0], part[1], part[0]), 2);
            x.deliver(part[2], 0);
            x.deliver(part[2], 1);
            due("the first is the latest there", x.known(part[2], part[1], part[0]), 1);
            x.deliver(part[2], 2);
            due("another's doesn't tell of it", x.known(part[2], part[1], part[0]), 1);
            x.deliver(part[2], 3);
            due("the second is the latest there", x.known(part[2], part[1], part[0]), 2);
        }
    }

    /** "KNOWN(r, i, j) is at least its place in line". */
    private static void stableWhenKnownIsAtLeastItsPlace() {
        for (int[] part : PARTS) {
            for (int told = 0; told <= 3; told++) {
                TombstoneText x = new TombstoneText();
                Scenes.write(x, part[0], "abc");
                x.sync(part[1], part[0]);
                x.insert(part[1], 0, 'd');
                x.sync(part[0], part[1]);
                for (int operation = 0; operation < told; operation++) {
                    x.deliver(part[2], operation);
                }
                x.insert(part[2], 0, 'e');
                x.deliver(part[0], 4);
                for (int operation = 0; operation < 3; operation++) {
                    due("place " + (operation + 1) + ", known " + told,
                        x.stable(part[0], operation), told >= operation + 1);
                }
            }
        }
    }

    /** "when it is applied at r". */
    private static void stableOnlyWhenAppliedThere() {
        for (int[] part : PARTS) {
            TombstoneText x = new TombstoneText();
            x.insert(part[0], 0, 'a');
            x.sync(part[1], part[0]);
            x.insert(part[1], 0, 'b');
            due("not delivered", x.stable(part[2], 0), false);
            x.deliver(part[2], 1);
            due("a word that waits is no word", x.stable(part[2], 0), false);
            x.deliver(part[2], 0);
            due("applied, and all have told so", x.stable(part[2], 0), true);
            due("one hasn't told of the second", x.stable(part[2], 1), false);
        }
    }

    /** "for i = 0, 1 and 2": whichever is missing, it isn't. */
    private static void stableForEachOfTheThree() {
        for (int[] part : PARTS) {
            TombstoneText x = new TombstoneText();
            x.insert(part[0], 0, 'a');
            due("neither has told", x.stable(part[0], 0), false);
            x.sync(part[1], part[0]);
            x.sync(part[2], part[0]);
            x.insert(part[1], 0, 'b');
            x.insert(part[2], 0, 'c');
            x.deliver(part[0], 1);
            due("one has told", x.stable(part[0], 0), false);
            due("at another, one hasn't", x.stable(part[1], 0), false);
            x.deliver(part[0], 2);
            due("both have told", x.stable(part[0], 0), true);
            x.deliver(part[1], 2);
            due("at another, all have", x.stable(part[1], 0), true);
            due("at the third, one hasn't", x.stable(part[2], 0), false);
        }
    }

    // Terms: collecting

    /** "for which an erase is stable at r": its place in line is known of all, not one less. */
    private static void collectedWhenAnEraseIsStable() {
        for (int[] part : PARTS) {
            TombstoneText x = new TombstoneText();
            Scenes.write(x, part[0], "ab");
            x.erase(part[0], 1);
            x.sync(part[1], part[0]);
            x.insert(part[1], 0, 'c');
            x.deliver(part[2], 0);
            x.deliver(part[2], 1);
            x.insert(part[2], 0, 'd');
            x.sync(part[0], part[1]);
            x.deliver(part[0], 4);
            due("one less is known", x.known(part[0], part[2], part[0]), 2);
            due("it isn't stable", x.collect(part[0]), 0);
            x.deliver(part[2], 2);
            due("it is applied there", x.collect(part[0]), 0);
            x.insert(part[2], 0, 'e');
            x.deliver(part[0], 5);
            due("just as many are known", x.known(part[0], part[2], part[0]), 3);
            due("it is stable", x.collect(part[0]), 1);
            due("what isn't erased is kept", x.kept(part[0]), 4);
        }
    }

    /** "for which an erase is stable at r": one of three, whichever it is. */
    private static void collectedWhenOneOfItsErasesIsStable() {
        for (int[] part : PARTS) {
            TombstoneText x = new TombstoneText();
            x.insert(part[0], 0, 'a');
            Scenes.syncAll(x);
            x.erase(part[0], 0);
            x.erase(part[1], 0);
            x.erase(part[2], 0);
            x.deliver(part[2], 2);
            x.insert(part[2], 0, 'b');
            x.sync(part[0], part[1]);
            due("two are applied, none is stable", x.collect(part[0]), 0);
            x.sync(part[0], part[2]);
            due("its own isn't stable", x.stable(part[0], 1), false);
            due("the second is", x.stable(part[0], 2), true);
            due("the third isn't", x.stable(part[0], 3), false);
            due("one is enough", x.collect(part[0]), 1);
        }
    }

    /** "all elements placed after it whose inserts are applied at r have inserts that are stable at r". */
    private static void collectedWhenAllAfterItAreStable() {
        for (int[] part : PARTS) {
            for (int gone = 0; gone <= 20; gone += 10) {
                TombstoneText x = erasedWithOneAfterIt(part, gone);
                due("the erase is stable", x.stable(part[0], 2 * gone + 3), true);
                due("one after it is stable", x.stable(part[0], 2 * gone + 1), true);
                due("the other isn't", x.stable(part[0], 2 * gone + 2), false);
                due("so it stays", x.collect(part[0]), gone);
                x.sync(part[2], part[1]);
                due("told to nobody", x.collect(part[0]), 0);
                x.insert(part[2], 0, 'h');
                x.sync(part[0], part[2]);
                due("all after it are stable", x.stable(part[0], 2 * gone + 2), true);
                due("so it goes", x.collect(part[0]), 1);
            }
        }
    }

    /**
     * Behind as many others that are erased and may go, numbered from 0: the first element has
     * the next two after it, and is erased by the operation behind these; at the first replica
     * the erase and the one element after it are stable, and the other isn't.
     */
    private static TombstoneText erasedWithOneAfterIt(int[] part, int gone) {
        TombstoneText x = new TombstoneText();
        for (int i = 0; i < gone; i++) {
            x.insert(part[0], 0, 'z');
            x.erase(part[0], 0);
        }
        Scenes.write(x, part[0], "pq");
        Scenes.syncAll(x);
        x.insert(part[1], 1, 'r');
        x.erase(part[2], 0);
        x.sync(part[0], part[2]);
        x.sync(part[1], part[2]);
        x.insert(part[1], 0, 's');
        x.sync(part[0], part[1]);
        return x;
    }

    /** Only those placed after the element itself count, not those after these. */
    private static void collectedThoughWhatIsFurtherIsNotStable() {
        for (int[] part : PARTS) {
            TombstoneText x = new TombstoneText();
            Scenes.write(x, part[0], "pq");
            x.erase(part[0], 0);
            Scenes.syncAll(x);
            x.insert(part[1], 0, 'a');
            x.insert(part[2], 0, 'b');
            x.sync(part[0], part[1]);
            x.sync(part[0], part[2]);
            x.insert(part[0], x.position(part[0], 1) + 1, 'r');
            due("after the one after it", x.stable(part[0], 5), false);
            due("after it", x.stable(part[0], 1), true);
            due("it goes", x.collect(part[0]), 1);
            x.erase(part[0], x.position(part[0], 1));
            due("the one after it has no stable erase", x.collect(part[0]), 0);
        }
    }

    /** "COLLECTING at r .. is KEPT no more at r": elsewhere the same element is still held. */
    private static void collectedAtEachReplicaByItself() {
        for (int[] part : PARTS) {
            TombstoneText x = new TombstoneText();
            x.insert(part[0], 0, 'p');
            Scenes.syncAll(x);
            x.insert(part[1], 1, 'q');
            x.erase(part[2], 0);
            x.deliver(part[0], 2);
            x.insert(part[0], 0, 'x');
            x.sync(part[1], part[0]);
            x.insert(part[1], 0, 'y');
            x.deliver(part[2], 1);
            x.insert(part[2], 0, 'z');
            x.sync(part[0], part[1]);
            x.sync(part[0], part[2]);
            due("it goes where all are stable", x.collect(part[0]), 1);
            due("elsewhere its erase is stable", x.stable(part[1], 2), true);
            due("what is after it isn't", x.stable(part[1], 1), false);
            due("so there it stays", x.collect(part[1]), 0);
            due("and is kept", x.kept(part[1]), 4);
            x.deliver(part[1], 5);
            due("one has told", x.collect(part[1]), 0);
            x.insert(part[0], 0, 'w');
            x.deliver(part[1], 6);
            due("until that is stable too", x.collect(part[1]), 1);
        }
    }

    /** "every element that is kept at r": what isn't kept doesn't go again. */
    private static void collectedOnlyOnce() {
        TombstoneText x = new TombstoneText();
        x.insert(0, 0, 'a');
        Scenes.syncAll(x);
        x.erase(0, 0);
        x.erase(1, 0);
        x.erase(2, 0);
        Scenes.syncAll(x);
        for (int round = 0; round < 2; round++) {
            for (int r = 0; r < 3; r++) {
                x.insert(r, 0, 'z');
            }
            Scenes.syncAll(x);
        }
        due("three erases are stable", x.stable(0, 1) && x.stable(0, 2) && x.stable(0, 3), true);
        due("one element goes", x.collect(0), 1);
        due("and not again", x.collect(0), 0);
        due("once it is taken off", x.kept(0), 6);
        due("its insert comes again", x.deliver(0, 0), 0);
        due("its erase comes again", x.sync(0, 1), 0);
        due("it doesn't come back", x.kept(0), 6);
        due("each replica on its own", x.kept(1), 7);
        due("another", x.collect(1), 1);
    }

    /** "(Otherwise each element whose insert is applied at r is kept there.". */
    private static void keptOtherwise() {
        TombstoneText x = new TombstoneText();
        due("none", x.kept(0), 0);
        x.insert(0, 0, 'a');
        due("one", x.kept(0), 1);
        x.insert(0, 0, 'b');
        x.erase(0, 0);
        due("erased", x.kept(0), 2);
        x.deliver(1, 1);
        due("what waits isn't", x.kept(1), 0);
        x.deliver(1, 0);
        due("what is applied is", x.kept(1), 2);
        x.collect(0);
        x.collect(1);
        due("not stable", x.kept(0) + x.kept(1), 4);
    }

    /** "no text changes by collecting, now or later". */
    private static void collectingChangesNoText() {
        for (int[] part : PARTS) {
            TombstoneText x = erasedWithOneAfterIt(part, 0);
            x.sync(part[2], part[1]);
            x.insert(part[2], 3, 'h');
            x.insert(part[2], 2, 'i');
            TombstoneText y = erasedWithOneAfterIt(part, 0);
            y.sync(part[2], part[1]);
            y.insert(part[2], 3, 'h');
            y.insert(part[2], 2, 'i');
            x.deliver(part[0], 5);
            y.deliver(part[0], 5);
            due("it goes", x.collect(part[0]), 1);
            due("now", Scenes.textOf(x, part[0]), Scenes.textOf(y, part[0]));
            x.insert(part[0], 1, 'k');
            y.insert(part[0], 1, 'k');
            Scenes.syncAll(x);
            Scenes.syncAll(y);
            for (int r = 0; r < 3; r++) {
                due("later at " + r, Scenes.textOf(x, r), Scenes.textOf(y, r));
            }
        }
    }

    // Terms: refusals

    /** "A refused call changes nothing." All refusals one after the other, in one run. */
    private static void refusedChangesNothing() {
        refusedIn("new", Scenes.NEW);
        refusedIn("busy", Scenes.BUSY);
        refusedIn("filled", Scenes.FILLED);
    }

    private static void refusedIn(String name, Consumer<TombstoneText> scene) {
        TombstoneText x = Scenes.play(scene);
        due("all are refused, " + name, refuseAll(x), true);
        String after = Reading.after(scene.andThen(TermsTest::refuseAll));
        due("nothing changed, " + name, after.equals(Reading.after(scene)), true);
    }

    private static boolean refuseAll(TombstoneText x) {
        int[] noReplicas = {-1, 3};
        boolean refused = true;
        for (int r : noReplicas) {
            refused &= x.insert(r, 0, 'a') == BAD && x.erase(r, 0) == BAD && x.deliver(r, 0) == BAD;
            refused &= x.sync(r, 0) == BAD && x.sync(0, r) == BAD && x.collect(r) == BAD;
            refused &= x.length(r) == BAD && x.at(r, 0) == BAD && x.position(r, 0) == BAD;
            refused &= x.kept(r) == BAD && x.waiting(r) == BAD && !x.stable(r, 0);
            refused &= x.known(r, 0, 0) == BAD && x.known(0, r, 0) == BAD && x.known(0, 0, r) == BAD;
            refused &= !x.same(r, 0) && !x.same(0, r);
        }
        int behind = x.operations();
        int[] noOperations = {-1, behind};
        for (int operation : noOperations) {
            refused &= x.deliver(1, operation) == BAD && x.position(1, operation) == BAD;
            refused &= x.stamp(operation) == BAD && !x.stable(1, operation);
        }
        for (int r = 0; r < 3; r++) {
            int end = x.length(r);
            refused &= x.insert(r, -1, 'a') == BAD && x.insert(r, end + 1, 'a') == BAD;
            refused &= x.insert(r, 0, (char) 31) == BAD && x.insert(r, 0, (char) 127) == BAD;
            refused &= x.erase(r, -1) == BAD && x.erase(r, end) == BAD;
            refused &= x.at(r, -1) == BAD && x.at(r, end) == BAD;
        }
        if (behind == 100) {
            refused &= x.insert(1, 0, 'a') == FULL && x.erase(1, 0) == FULL;
        }
        return refused;
    }

    private static void due(String what, long got, long want) {
        CHECK.due(what, got, want);
    }

    private static void due(String what, boolean got, boolean want) {
        CHECK.due(what, got, want);
    }

    private static void due(String what, String got, String want) {
        CHECK.due(what, got, want);
    }
}
