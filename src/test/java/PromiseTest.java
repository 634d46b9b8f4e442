/** Each promise by hand: ordinary inputs, the edges that the document names, wrong inputs. */
public final class PromiseTest {
    private static final int BAD = TombstoneText.BAD;
    private static final int FULL = TombstoneText.FULL;
    private static final int[] NO_REPLICAS = {-1, 3, 4, Integer.MIN_VALUE, Integer.MAX_VALUE};

    private static final Check CHECK = new Check("PromiseTest");

    public static void main(String[] args) {
        newObject();
        insertOrdinary();
        insertOrder();
        insertBehindErased();
        insertWrong();
        insertFull();
        eraseOrdinary();
        eraseWrong();
        deliverOrdinary();
        deliverWithAllItBuildsOn();
        deliverErase();
        deliverWrong();
        syncOrdinary();
        syncFreesWhatWaits();
        syncWrong();
        collectOrdinary();
        collectWaitsForElementsAfter();
        collectOneOfTwoErases();
        collectChangesNoText();
        collectWrong();
        lengthAndAt();
        position();
        same();
        operations();
        stamp();
        known();
        stable();
        kept();
        waiting();
        CHECK.end();
    }

    // Promise 1

    private static void newObject() {
        TombstoneText x = new TombstoneText();
        due("1 operations", x.operations(), 0);
        for (int r = 0; r < 3; r++) {
            due("1 length", x.length(r), 0);
            due("1 at", x.at(r, 0), BAD);
            due("1 kept", x.kept(r), 0);
            due("1 waiting", x.waiting(r), 0);
            due("1 collect", x.collect(r), 0);
            due("1 position", x.position(r, 0), BAD);
            due("1 deliver", x.deliver(r, 0), BAD);
            due("1 stable", x.stable(r, 0), false);
            for (int s = 0; s < 3; s++) {
                due("1 sync", x.sync(r, s), 0);
                due("1 same", x.same(r, s), true);
                due("1 known", x.known(r, s, 0) + x.known(r, s, 1) + x.known(r, s, 2), 0);
            }
        }
        due("1 stamp", x.stamp(0), BAD);
        x.insert(0, 0, 'a');
        due("1 objects share nothing", new TombstoneText().operations(), 0);
    }

    // Promise 2

    private static void insertOrdinary() {
        TombstoneText x = new TombstoneText();
        due("2 first", x.insert(1, 0, 'b'), 0);
        due("2 at the start", x.insert(1, 0, 'a'), 1);
        due("2 at the end", x.insert(1, 2, 'd'), 2);
        due("2 within", x.insert(1, 2, 'c'), 3);
        due("2 other replica", x.insert(2, 0, 'x'), 4);
        due("2 text", Scenes.textOf(x, 1), "abcd");
        due("2 text of 2", Scenes.textOf(x, 2), "x");
        due("2 text of 0", Scenes.textOf(x, 0), "");
        due("2 least character", x.insert(0, 0, (char) 32), 5);
        due("2 greatest character", x.insert(0, 1, (char) 126), 6);
        due("2 edge text", Scenes.textOf(x, 0), " ~");
    }

    private static void insertOrder() {
        TombstoneText x = new TombstoneText();
        x.insert(0, 0, 'a');
        x.insert(1, 0, 'b');
        x.insert(2, 0, 'c');
        x.insert(1, 1, 'd');
        Scenes.syncAll(x);
        due("2 equal stamps, greater replica first", Scenes.textOf(x, 0), "cbda");
        x.insert(0, 0, '0');
        x.insert(2, 1, '2');
        x.insert(2, 2, '3');
        x.insert(1, 1, '1');
        x.insert(0, 2, '4');
        Scenes.syncAll(x);
        due("2 greatest stamp first, what is after it behind it", Scenes.textOf(x, 0), "0c4231bda");
        due("2 all the same", x.same(0, 1) && x.same(1, 2), true);

        x = new TombstoneText();
        x.insert(0, 0, 'p');
        Scenes.syncAll(x);
        x.insert(0, 1, 'a');
        x.insert(1, 0, 'u');
        x.insert(1, 2, 'b');
        x.insert(1, 3, 'c');
        x.insert(2, 1, 'd');
        x.deliver(0, 2);
        x.deliver(0, 3);
        due("2 greater stamp first though it came later", Scenes.textOf(x, 0), "upba");
        Scenes.syncAll(x);
        due("2 equal stamps after the same element", Scenes.textOf(x, 0), "upbcda");
    }

    private static void insertBehindErased() {
        TombstoneText x = new TombstoneText();
        Scenes.write(x, 0, "abc");
        x.sync(1, 0);
        x.erase(0, 1);
        x.insert(0, 1, 'x');
        due("2 positions are the text's", Scenes.textOf(x, 0), "axc");
        x.insert(1, 2, 'y');
        due("2 after an element erased elsewhere", Scenes.textOf(x, 1), "abyc");
        Scenes.syncAll(x);
        due("2 its place stays when it is erased", Scenes.textOf(x, 0), "axyc");
        due("2 and so elsewhere", Scenes.textOf(x, 1), "axyc");
    }

    private static void insertWrong() {
        TombstoneText x = new TombstoneText();
        x.insert(0, 0, 'a');
        for (int r : NO_REPLICAS) {
            due("2 no replica " + r, x.insert(r, 0, 'a'), BAD);
        }
        int[] positions = {-1, 2, Integer.MIN_VALUE, Integer.MAX_VALUE};
        for (int position : positions) {
            due("2 no position " + position, x.insert(0, position, 'a'), BAD);
        }
        due("2 no position at 1", x.insert(1, 1, 'a'), BAD);
        int[] characters = {0, 31, 127, 255, 256 + 'a', 0xFFFF};
        for (int c : characters) {
            due("2 no character " + c, x.insert(0, 0, (char) c), BAD);
        }
        due("2 refused changes nothing", x.operations(), 1);
        due("2 refused text", Scenes.textOf(x, 0), "a");
        due("2 refused stamp", x.stamp(x.insert(0, 0, 'b')), 8);
        due("2 refused line", x.known(0, 0, 0), 2);
    }

    private static void insertFull() {
        TombstoneText x = new TombstoneText();
        for (int i = 0; i < 100; i++) {
            due("2 number", x.insert(i % 3, i / 3, 'a'), i);
        }
        due("2 full", x.insert(0, 0, 'a'), FULL);
        due("3 full", x.erase(0, 0), FULL);
        due("2 bad goes before full: position", x.insert(0, 35, 'a'), BAD);
        due("2 bad goes before full: character", x.insert(0, 0, (char) 31), BAD);
        due("2 bad goes before full: replica", x.insert(3, 0, 'a'), BAD);
        due("3 bad goes before full: position", x.erase(0, 34), BAD);
        due("3 bad goes before full: replica", x.erase(-1, 0), BAD);
        due("2 full changes nothing", x.operations(), 100);
        due("2 full length", x.length(0), 34);
        due("5 all of them", x.sync(0, 1) + x.sync(0, 2), 66);
        due("7 all of them", x.length(0), 100);
        due("8 last of them", x.at(0, 99), 'a');
    }

    // Promise 3

    private static void eraseOrdinary() {
        TombstoneText x = new TombstoneText();
        Scenes.write(x, 0, "abcd");
        due("3 within", x.erase(0, 1), 4);
        due("3 text", Scenes.textOf(x, 0), "acd");
        due("3 last", x.erase(0, 2), 5);
        due("3 first", x.erase(0, 0), 6);
        due("3 text after all", Scenes.textOf(x, 0), "c");
        x.deliver(1, 0);
        due("3 other replica", x.erase(1, 0), 7);
        due("3 its text", Scenes.textOf(x, 1), "");
        due("3 twice erased, first applied", x.sync(1, 0), 6);
        due("3 twice erased, text", Scenes.textOf(x, 1), "c");
        due("3 twice erased, other way", x.sync(0, 1), 1);
        due("3 twice erased, length", x.length(0), 1);
    }

    private static void eraseWrong() {
        TombstoneText x = new TombstoneText();
        due("3 empty", x.erase(0, 0), BAD);
        Scenes.write(x, 0, "ab");
        for (int r : NO_REPLICAS) {
            due("3 no replica " + r, x.erase(r, 0), BAD);
        }
        int[] positions = {-1, 2, 3, Integer.MIN_VALUE, Integer.MAX_VALUE};
        for (int position : positions) {
            due("3 no position " + position, x.erase(0, position), BAD);
        }
        due("3 not there at 1", x.erase(1, 0), BAD);
        due("3 refused changes nothing", x.operations(), 2);
        due("3 refused text", Scenes.textOf(x, 0), "ab");
        x.erase(0, 1);
        due("3 erased is not there", x.erase(0, 1), BAD);
    }

    // Promise 4

    private static void deliverOrdinary() {
        TombstoneText x = new TombstoneText();
        Scenes.write(x, 0, "abc");
        due("4 own is applied already", x.deliver(0, 1), 0);
        due("4 own never waits", x.waiting(0), 0);
        due("4 last first", x.deliver(1, 2), 0);
        due("4 waits", x.waiting(1), 1);
        due("4 again", x.deliver(1, 2), 0);
        due("4 waits once", x.waiting(1), 1);
        due("4 first", x.deliver(1, 0), 1);
        due("4 text", Scenes.textOf(x, 1), "a");
        due("4 between frees the last", x.deliver(1, 1), 2);
        due("4 text of all", Scenes.textOf(x, 1), "abc");
        due("4 nothing waits", x.waiting(1), 0);
        due("4 applied already", x.deliver(1, 1), 0);
        due("4 applied is not waiting", x.waiting(1), 0);
        due("4 text is as it was", Scenes.textOf(x, 1), "abc");
        due("4 others have nothing", x.length(2), 0);
    }

    private static void deliverWithAllItBuildsOn() {
        TombstoneText x = new TombstoneText();
        x.insert(0, 0, 'a');
        x.deliver(1, 0);
        x.insert(1, 0, 'b');
        due("4 builds on replica 0's", x.deliver(2, 1), 0);
        due("4 waits for it", x.waiting(2), 1);
        x.insert(2, 0, 'c');
        due("4 own edit frees nothing", x.waiting(2), 1);
        due("4 own edit's stamp", x.stamp(2), 6);
        due("4 both", x.deliver(2, 0), 2);
        due("4 text", Scenes.textOf(x, 2), "bca");
        x.insert(2, 0, 'd');
        due("4 builds on what 0 lacks", x.deliver(0, 3), 0);
        due("4 next in line is not all", x.deliver(0, 2), 1);
        due("4 now", x.deliver(0, 1), 2);
        due("4 text at 0", Scenes.textOf(x, 0), "dbca");
    }

    private static void deliverErase() {
        TombstoneText x = new TombstoneText();
        Scenes.write(x, 0, "ab");
        x.sync(1, 0);
        x.erase(1, 0);
        due("4 erase before its insert", x.deliver(2, 2), 0);
        due("4 part of what it builds on", x.deliver(2, 0), 1);
        due("4 text still", Scenes.textOf(x, 2), "a");
        due("4 rest frees the erase", x.deliver(2, 1), 2);
        due("4 text then", Scenes.textOf(x, 2), "b");
    }

    private static void deliverWrong() {
        TombstoneText x = new TombstoneText();
        x.insert(0, 0, 'a');
        for (int r : NO_REPLICAS) {
            due("4 no replica " + r, x.deliver(r, 0), BAD);
        }
        int[] operations = {-1, 1, 99, 100, Integer.MIN_VALUE, Integer.MAX_VALUE};
        for (int operation : operations) {
            due("4 no operation " + operation, x.deliver(1, operation), BAD);
        }
        due("4 refused changes nothing", x.waiting(1) + x.length(1), 0);
        x.insert(0, 0, 'b');
        due("4 refused was not kept for later", x.deliver(1, 0), 1);
    }

    // Promise 5

    private static void syncOrdinary() {
        TombstoneText x = new TombstoneText();
        Scenes.write(x, 0, "abc");
        x.erase(0, 1);
        due("5 all", x.sync(1, 0), 4);
        due("5 text", Scenes.textOf(x, 1), "ac");
        due("5 again", x.sync(1, 0), 0);
        due("5 with itself", x.sync(1, 1), 0);
        x.insert(1, 2, 'd');
        due("5 by way of another", x.sync(2, 1), 5);
        due("5 its text", Scenes.textOf(x, 2), "acd");
        due("5 is one way", x.length(0), 2);
        due("5 back", x.sync(0, 2), 1);
        due("5 back text", Scenes.textOf(x, 0), "acd");
    }

    private static void syncFreesWhatWaits() {
        TombstoneText x = new TombstoneText();
        x.insert(0, 0, 'a');
        x.sync(1, 0);
        x.insert(1, 1, 'b');
        x.insert(1, 2, 'c');
        x.deliver(2, 2);
        x.deliver(2, 1);
        due("5 both wait", x.waiting(2), 2);
        due("5 what waits at the other is not synced", x.sync(0, 2), 0);
        due("5 and what waited is counted", x.sync(2, 0), 3);
        due("5 nothing waits", x.waiting(2), 0);
        due("5 text", Scenes.textOf(x, 2), "abc");
        x.insert(0, 0, 'd');
        due("5 what was already waiting is synced once", x.deliver(1, 3) + x.sync(1, 0), 1);
    }

    private static void syncWrong() {
        TombstoneText x = new TombstoneText();
        x.insert(0, 0, 'a');
        for (int r : NO_REPLICAS) {
            due("5 no replica to " + r, x.sync(r, 0), BAD);
            due("5 no replica from " + r, x.sync(1, r), BAD);
            due("5 neither", x.sync(r, r), BAD);
        }
        due("5 refused changes nothing", x.length(1) + x.waiting(1), 0);
    }

    // Promise 6

    private static void collectOrdinary() {
        TombstoneText x = new TombstoneText();
        Scenes.write(x, 0, "abc");
        x.erase(0, 2);
        due("6 nobody else knows", x.collect(0), 0);
        Scenes.syncAll(x);
        due("6 nobody else has said so", x.collect(0), 0);
        x.insert(1, 0, 'x');
        x.sync(0, 1);
        due("6 one has said so", x.collect(0), 0);
        x.insert(2, 0, 'y');
        x.sync(0, 2);
        due("6 both have said so", x.collect(0), 1);
        due("6 kept", x.kept(0), 4);
        due("6 text", Scenes.textOf(x, 0), "yxab");
        due("6 again", x.collect(0), 0);
        due("6 others on their own", x.collect(1), 0);
        x.sync(1, 2);
        due("6 replica 1 too", x.collect(1), 1);
        due("6 replica 2 lacks replica 1's word", x.collect(2), 0);
        due("6 replica 2 keeps", x.kept(2), 4);
    }

    private static void collectWaitsForElementsAfter() {
        TombstoneText x = new TombstoneText();
        x.insert(0, 0, 'p');
        Scenes.syncAll(x);
        x.insert(1, 1, 'q');
        x.erase(2, 0);
        x.sync(0, 1);
        x.sync(0, 2);
        x.sync(1, 2);
        x.insert(1, 0, 'r');
        x.insert(0, 0, 's');
        x.sync(0, 1);
        due("6 the erase is stable", x.stable(0, 2), true);
        due("6 what is after it isn't", x.stable(0, 1), false);
        due("6 so it stays", x.collect(0), 0);
        due("6 all are kept", x.kept(0), 4);
        x.sync(2, 1);
        x.insert(2, 0, 't');
        x.sync(0, 2);
        due("6 now what is after it is stable", x.stable(0, 1), true);
        due("6 so it goes", x.collect(0), 1);
        due("6 the rest is kept", x.kept(0), 4);
    }

    private static void collectOneOfTwoErases() {
        TombstoneText x = new TombstoneText();
        x.insert(0, 0, 'a');
        Scenes.syncAll(x);
        x.erase(0, 0);
        x.erase(1, 0);
        x.sync(2, 0);
        x.insert(2, 0, 'z');
        x.sync(1, 2);
        x.insert(1, 0, 'y');
        x.sync(0, 1);
        due("6 one erase is stable", x.stable(0, 1), true);
        due("6 the other isn't", x.stable(0, 2), false);
        due("6 one is enough", x.collect(0), 1);
        Scenes.syncAll(x);
        due("6 the other takes nothing more", x.collect(0), 0);
        due("6 twice erased goes once", x.kept(0), 2);
    }

    private static void collectChangesNoText() {
        TombstoneText x = new TombstoneText();
        Scenes.write(x, 0, "abcd");
        Scenes.syncAll(x);
        x.erase(0, 1);
        Scenes.syncAll(x);
        x.insert(1, 1, 'x');
        x.insert(2, 2, 'y');
        x.insert(2, 1, 'z');
        x.sync(0, 1);
        x.deliver(0, 6);
        due("6 gone at 0", x.collect(0), 1);
        due("6 kept at 0", x.kept(0), 5);
        due("6 text of 0", Scenes.textOf(x, 0), "axcyd");
        Scenes.syncAll(x);
        due("6 what came later has its place", Scenes.textOf(x, 0), "azxcyd");
        due("6 the same as where it is kept", x.same(0, 1) && x.same(0, 2), true);
        due("6 erased and gone has no position", x.position(0, 1), BAD);
    }

    private static void collectWrong() {
        for (int r : NO_REPLICAS) {
            due("6 no replica " + r, new TombstoneText().collect(r), BAD);
        }
    }

    // Promises 7 and 8

    private static void lengthAndAt() {
        TombstoneText x = new TombstoneText();
        Scenes.write(x, 2, "xyz");
        due("7 length", x.length(2), 3);
        due("7 other", x.length(1), 0);
        due("8 first", x.at(2, 0), 'x');
        due("8 last", x.at(2, 2), 'z');
        due("8 behind", x.at(2, 3), BAD);
        due("8 before", x.at(2, -1), BAD);
        due("8 least", x.at(2, Integer.MIN_VALUE), BAD);
        due("8 greatest", x.at(2, Integer.MAX_VALUE), BAD);
        due("8 other", x.at(1, 0), BAD);
        x.erase(2, 1);
        due("7 erased", x.length(2), 2);
        due("8 erased", x.at(2, 1), 'z');
        due("8 no more", x.at(2, 2), BAD);
        for (int r : NO_REPLICAS) {
            due("7 no replica " + r, x.length(r), BAD);
            due("8 no replica " + r, x.at(r, 0), BAD);
        }
    }

    // Promise 9

    private static void position() {
        TombstoneText x = new TombstoneText();
        Scenes.write(x, 0, "ab");
        x.insert(0, 0, 'c');
        due("9 moved", x.position(0, 0), 1);
        due("9 last", x.position(0, 1), 2);
        due("9 first", x.position(0, 2), 0);
        due("9 not applied", x.position(1, 0), BAD);
        x.deliver(1, 1);
        due("9 waits", x.position(1, 1), BAD);
        x.deliver(1, 0);
        due("9 applied", x.position(1, 1), 1);
        x.erase(0, 1);
        due("9 erased", x.position(0, 0), BAD);
        due("9 is an erase", x.position(0, 3), BAD);
        due("9 behind an erased one", x.position(0, 1), 1);
        due("9 erased elsewhere", x.position(1, 0), 0);
        int[] operations = {-1, 4, 99, 100, Integer.MIN_VALUE, Integer.MAX_VALUE};
        for (int operation : operations) {
            due("9 no operation " + operation, x.position(0, operation), BAD);
        }
        for (int r : NO_REPLICAS) {
            due("9 no replica " + r, x.position(r, 2), BAD);
        }
    }

    // Promise 10

    private static void same() {
        TombstoneText x = new TombstoneText();
        x.insert(0, 0, 'a');
        due("10 longer", x.same(0, 1), false);
        due("10 shorter", x.same(1, 0), false);
        x.insert(1, 0, 'a');
        due("10 other elements, same characters", x.same(0, 1), true);
        x.insert(0, 1, 'b');
        x.insert(1, 0, 'b');
        due("10 same characters in another order", x.same(0, 1), false);
        due("10 itself", x.same(0, 0), true);
        x.erase(0, 1);
        x.erase(1, 0);
        due("10 erased don't count", x.same(0, 1), true);
        x.insert(0, 1, 'c');
        x.insert(1, 1, 'd');
        due("10 last differs", x.same(0, 1), false);
        for (int r : NO_REPLICAS) {
            due("10 no replica " + r, x.same(r, 2), false);
            due("10 no replica, second " + r, x.same(2, r), false);
            due("10 no replica, both " + r, x.same(r, r), false);
        }
    }

    // Promise 11

    private static void operations() {
        TombstoneText x = new TombstoneText();
        x.insert(0, 0, 'a');
        x.insert(2, 0, 'b');
        x.erase(0, 0);
        due("11 inserts and erases of all", x.operations(), 3);
        x.sync(1, 0);
        x.deliver(1, 1);
        x.collect(0);
        due("11 delivery issues nothing", x.operations(), 3);
        x.erase(0, 0);
        due("11 refused isn't issued", x.operations(), 3);
    }

    // Promise 12

    private static void stamp() {
        TombstoneText x = new TombstoneText();
        x.insert(2, 0, 'a');
        due("12 first", x.stamp(0), 6);
        x.insert(1, 0, 'b');
        due("12 knows of nothing", x.stamp(1), 5);
        x.erase(2, 0);
        due("12 erases too", x.stamp(2), 10);
        x.insert(2, 0, 'c');
        due("12 goes on", x.stamp(3), 14);
        x.deliver(0, 2);
        x.insert(0, 0, 'd');
        due("12 what waits doesn't count", x.stamp(4), 4);
        x.deliver(0, 0);
        x.insert(0, 0, 'e');
        due("12 what is applied counts", x.stamp(5), 12);
        x.deliver(2, 1);
        x.insert(2, 0, 'f');
        due("12 a lesser one changes nothing", x.stamp(6), 18);
        int[] operations = {-1, 7, 99, 100, Integer.MIN_VALUE, Integer.MAX_VALUE};
        for (int operation : operations) {
            due("12 no operation " + operation, x.stamp(operation), BAD);
        }
    }

    // Promise 13

    private static void known() {
        TombstoneText x = new TombstoneText();
        Scenes.write(x, 0, "ab");
        due("13 own", x.known(0, 0, 0), 2);
        due("13 of others nothing", x.known(0, 1, 0) + x.known(0, 2, 0), 0);
        x.sync(1, 0);
        due("13 applied of another", x.known(1, 1, 0), 2);
        due("13 that other of itself", x.known(1, 0, 0), 2);
        x.insert(1, 0, 'c');
        due("13 not heard of yet", x.known(0, 1, 0), 0);
        x.deliver(0, 2);
        due("13 by the clock", x.known(0, 1, 0), 2);
        due("13 of its own", x.known(0, 1, 1), 1);
        due("13 applied", x.known(0, 0, 1), 1);
        due("13 of the third", x.known(0, 2, 0), 0);
        x.insert(2, 0, 'd');
        x.sync(1, 2);
        x.deliver(2, 2);
        due("13 what waits tells nothing", x.known(2, 1, 0) + x.known(2, 1, 1), 0);
        due("13 received alone tells the sender nothing", x.known(0, 1, 2), 0);
        x.insert(1, 0, 'e');
        x.sync(0, 1);
        due("13 the latest clock", x.known(0, 1, 2), 1);
        due("13 the third by its own clock", x.known(0, 2, 2), 1);
        due("13 the third knew nothing", x.known(0, 2, 0) + x.known(0, 2, 1), 0);
        for (int r : NO_REPLICAS) {
            due("13 no replica r " + r, x.known(r, 0, 0), BAD);
            due("13 no replica i " + r, x.known(0, r, 0), BAD);
            due("13 no replica j " + r, x.known(0, 0, r), BAD);
        }
    }

    // Promise 14

    private static void stable() {
        TombstoneText x = new TombstoneText();
        x.insert(0, 0, 'a');
        x.insert(0, 1, 'b');
        due("14 own alone", x.stable(0, 0), false);
        x.deliver(1, 0);
        x.deliver(2, 0);
        x.insert(1, 0, 'c');
        x.insert(2, 0, 'd');
        x.deliver(0, 2);
        due("14 one is missing", x.stable(0, 0), false);
        x.deliver(0, 3);
        due("14 all know", x.stable(0, 0), true);
        due("14 the next in line isn't known", x.stable(0, 1), false);
        due("14 others' operations aren't", x.stable(0, 2) || x.stable(0, 3), false);
        due("14 elsewhere", x.stable(1, 0), false);
        x.deliver(1, 3);
        due("14 elsewhere later", x.stable(1, 0), true);
        due("14 not applied", x.stable(2, 2), false);
        x.erase(0, 0);
        x.sync(1, 0);
        x.sync(2, 0);
        x.insert(1, 0, 'e');
        x.insert(2, 0, 'f');
        x.sync(0, 1);
        x.sync(0, 2);
        due("14 erases too", x.stable(0, 4), true);
        due("14 stays", x.stable(0, 0), true);
        int[] operations = {-1, 7, 99, 100, Integer.MIN_VALUE, Integer.MAX_VALUE};
        for (int operation : operations) {
            due("14 no operation " + operation, x.stable(0, operation), false);
        }
        for (int r : NO_REPLICAS) {
            due("14 no replica " + r, x.stable(r, 0), false);
        }
    }

    // Promise 15

    private static void kept() {
        TombstoneText x = new TombstoneText();
        Scenes.write(x, 0, "ab");
        due("15 own", x.kept(0), 2);
        due("15 not applied", x.kept(1), 0);
        x.deliver(1, 1);
        due("15 what waits isn't kept", x.kept(1), 0);
        x.deliver(1, 0);
        due("15 applied", x.kept(1), 2);
        x.erase(0, 1);
        due("15 erased is kept still", x.kept(0), 2);
        x.sync(1, 0);
        x.sync(2, 0);
        due("15 applied with its erase", x.kept(2), 2);
        x.insert(1, 0, 'c');
        x.insert(2, 0, 'd');
        Scenes.syncAll(x);
        due("15 nothing goes by itself", x.kept(0), 4);
        x.collect(0);
        due("15 collected", x.kept(0), 3);
        due("15 elsewhere", x.kept(1), 4);
        for (int r : NO_REPLICAS) {
            due("15 no replica " + r, x.kept(r), BAD);
        }
    }

    // Promise 16

    private static void waiting() {
        TombstoneText x = new TombstoneText();
        Scenes.write(x, 0, "abc");
        x.deliver(1, 2);
        x.deliver(1, 1);
        due("16 two", x.waiting(1), 2);
        due("16 elsewhere", x.waiting(2), 0);
        x.deliver(1, 1);
        due("16 again", x.waiting(1), 2);
        x.deliver(1, 0);
        due("16 none", x.waiting(1), 0);
        x.deliver(1, 2);
        due("16 applied doesn't wait", x.waiting(1), 0);
        x.erase(0, 0);
        x.erase(0, 0);
        x.deliver(1, 4);
        due("16 erases wait too", x.waiting(1), 1);
        for (int r : NO_REPLICAS) {
            due("16 no replica " + r, x.waiting(r), BAD);
        }
    }

    private static void due(String what, long got, long want) {
        CHECK.due(what, got, want);
    }

    private static void due(String what, boolean got, boolean want) {
        CHECK.due(what, got, want);
    }

    private static void due(String what, String got, String want) {
        CHECK.due(what, got, want);
    }
}
