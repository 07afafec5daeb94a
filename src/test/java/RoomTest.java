import com.sun.management.ThreadMXBean;
import java.lang.management.ManagementFactory;

/** All calls of a run share one room: the dearest ones make nothing, and an object is small. */
public final class RoomTest {

    private static final long MOST_BYTES_OF_OBJECT = 16_000;
    private static final long MOST_BYTES_OF_CALLS = 2_000;

    public static void main(String[] args) {
        ThreadMXBean threads = (ThreadMXBean) ManagementFactory.getThreadMXBean();
        Dues dues = new Dues();
        // Once for nothing: classes that are loaded meanwhile count, too.
        fill(new RopesAtDawn());
        allocated(threads);
        long ahead = allocated(threads);
        RopesAtDawn x = new RopesAtDawn();
        long made = allocated(threads) - ahead;
        dues.due("bytes of an object " + made, made < MOST_BYTES_OF_OBJECT, true);
        fill(x);
        x.image();
        ahead = allocated(threads);
        int calls = 0;
        for (int i = 0; i < 12; i++) {
            calls += dearest(x, i);
        }
        long used = allocated(threads) - ahead;
        dues.due("bytes of " + calls + " calls " + used, used < MOST_BYTES_OF_CALLS, true);
        dues.end("RoomTest");
    }

    private static long allocated(ThreadMXBean threads) {
        return threads.getThreadAllocatedBytes(Thread.currentThread().getId());
    }

    private static void fill(RopesAtDawn x) {
        for (int i = 0; i < 10; i++) {
            x.person(60 + 20 * i, 30 * i, 60 - i, i & 1);
        }
        for (int i = 0; i < 8; i++) {
            x.piece(i - 3, 20 * i, 10 * i, 5 * i + 1);
        }
        for (int i = 0; i < 6; i++) {
            x.rope(i + 1, 20 - i, i);
            x.join(i);
        }
        for (int i = 0; i < 10; i++) {
            x.tie(i < 5 ? 0 : i - 4, i);
        }
        Dues.text(x, 0, "(w+s*h+10*b-l)*((w+s*h+10*b-l)>0)+!(w<l)*(b>3)+h%7");
    }

    private static int dearest(RopesAtDawn x, int i) {
        x.toll();
        x.over();
        x.order(0, i % 5);
        x.line(-1);
        x.space(0);
        x.parts(0, 1 + i % 5);
        x.best(0, 1439);
        x.latest(5000);
        x.left();
        x.lead(0);
        x.mornings(40, 1);
        x.voice(4, 3, i);
        x.image();
        x.take(i % 3, 0);
        x.restore();
        x.feed(0x77, 1);
        x.text(1);
        x.sheet(0, 32, 40);
        x.people(0);
        x.check();
        return 20;
    }
}
