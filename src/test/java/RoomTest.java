import java.lang.management.ManagementFactory;
import java.lang.reflect.Method;

/** A run of 512 calls takes little of the room in which all its calls live. */
public final class RoomTest {
    // A tenth of 600,000 objects and 7.3 million fields and elements, at 16 bytes and 4 bytes each.
    private static final long BYTES = (600_000L * 16 + 7_300_000L * 4) / 10;

    public static void main(String[] args) throws ReflectiveOperationException {
        Method told;
        try {
            told = Class.forName("com.sun.management.ThreadMXBean").getMethod("getThreadAllocatedBytes", long.class);
        } catch (ClassNotFoundException e) {
            System.out.println("this Java does not tell what is taken");
            return;
        }
        taken(told);
        long bytes = taken(told);
        Check.due("a run of calls takes some room", true, bytes > 0);
        Check.due("not " + bytes + " bytes", true, bytes < BYTES);
        Check.finish();
    }

    private static long taken(Method told) throws ReflectiveOperationException {
        long before = now(told);
        run();
        return now(told) - before;
    }

    private static long now(Method told) throws ReflectiveOperationException {
        return (Long) told.invoke(ManagementFactory.getThreadMXBean(), Thread.currentThread().getId());
    }

    /** Ten calls ahead of the loop, and 20 times 25 or one less: an object is used for 512. */
    private static void run() {
        Rewinder x = new Rewinder();
        x.add('k', 2, 1, 0);
        x.add('+', 1, 1, 2);
        x.add('s', 1, 1, 0);
        x.add('c', 0, 5, 0);
        x.add('j', 2, 1, 0);
        x.add('r', 0, 0, 0);
        x.begin();
        x.feed(7);
        x.addBreak(2, -1, 0, 99);
        x.forward(60);
        for (int i = 0; i < 20; i++) {
            x.forward(60);
            x.next();
            x.goOn();
            x.goBack();
            x.go(x.end());
            x.feed(i);
            x.tick(i);
            x.change(i, i);
            x.patch(5, 'r', 0, 0, 0);
            x.swap();
            x.met(0);
            x.lastWrite(1);
            x.writes(1);
            x.firstAbove(2, 1);
            x.slice(1);
            x.hangsOn(1, 2);
            x.without(0);
            x.with(0, 99);
            x.pages();
            x.sum();
            x.isSound();
            x.backNext();
            x.select(0);
            if (i < 4) {
                x.branch();
            }
        }
    }
}
