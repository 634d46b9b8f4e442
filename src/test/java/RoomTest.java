import com.sun.management.ThreadMXBean;
import java.lang.management.ManagementFactory;

/** All calls of a run share one room: calls make no objects, and a new object stays small. */
public final class RoomTest {
    private static final int OBJECTS = 10;
    /** Of 15 calls each, so that no object is used for more than 512. */
    private static final int ROUNDS = 34;
    private static final int BYTES_OF_ALL_CALLS = 1_000;
    private static final int BYTES_OF_ONE_OBJECT = 20_000;

    public static void main(String[] args) {
        Check check = new Check("RoomTest");
        ThreadMXBean threads = (ThreadMXBean) ManagementFactory.getThreadMXBean();
        long self = Thread.currentThread().getId();
        threads.getThreadAllocatedBytes(self);
        useAll(new TombstoneText()); // so that loading the classes isn't counted below
        TombstoneText[] texts = new TombstoneText[OBJECTS];
        long start = threads.getThreadAllocatedBytes(self);
        for (int i = 0; i < OBJECTS; i++) {
            texts[i] = new TombstoneText();
        }
        long made = threads.getThreadAllocatedBytes(self);
        for (TombstoneText text : texts) {
            useAll(text);
        }
        long used = threads.getThreadAllocatedBytes(self);
        long each = (made - start) / OBJECTS;
        check.due("a new object is small: " + each, each < BYTES_OF_ONE_OBJECT, true);
        check.due("calls make no objects: " + (used - made), used - made < BYTES_OF_ALL_CALLS, true);
        check.end();
    }

    private static void useAll(TombstoneText text) {
        for (int i = 0; i < ROUNDS; i++) {
            int r = i % 3;
            int s = (i + 1) % 3;
            text.insert(r, 0, 'a');
            text.erase(r, i % 7);
            text.deliver(s, i);
            text.sync(s, r);
            text.collect(r);
            text.at(r, 0);
            text.position(r, i % 100);
            text.same(r, s);
            text.stable(r, i % 100);
            text.length(r);
            text.operations();
            text.stamp(i % 100);
            text.known(r, s, r);
            text.kept(r);
            text.waiting(r);
        }
    }
}
