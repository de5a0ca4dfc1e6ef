import com.sun.management.ThreadMXBean;
import java.lang.management.ManagementFactory;

/**
 * What 512 of the dearest calls make, all together: nothing of a run is ever given back, and the room holds some
 * 600,000 objects and 7.3 million fields and elements.
 */
public final class RoomTest {
    private static final long BYTES_MOST = 6_000_000;
    private static final int CALLS = 512;

    private static int calls = 0;
    private static GlassBox box;

    public static void main(String[] args) {
        ThreadMXBean meter = (ThreadMXBean) ManagementFactory.getThreadMXBean();
        use();
        long before = meter.getCurrentThreadAllocatedBytes();
        calls = 0;
        use();
        long made = meter.getCurrentThreadAllocatedBytes() - before;
        long bare = meter.getCurrentThreadAllocatedBytes();
        box = new GlassBox();
        bare = meter.getCurrentThreadAllocatedBytes() - bare;
        System.out.println("512 calls make " + made + " bytes, a new object " + bare);
        if (made > BYTES_MOST || bare > 100_000) {
            System.out.println("that is more than there should be");
            System.exit(1);
        }
    }

    private static boolean more() {
        calls++;
        return calls <= CALLS;
    }

    private static void feed(byte[] bytes) {
        for (int i = 0; i < bytes.length; i += 20) {
            int[] n = FEED;
            for (int j = 0; j < 5; j++) {
                n[j] = 0;
            }
            for (int j = 0; j < 20; j++) {
                n[j / 4] = n[j / 4] << 8 | (i + j < bytes.length ? bytes[i + j] : 0);
            }
            calls++;
            box.feed(n[0], n[1], n[2], n[3], n[4]);
        }
        calls++;
        box.end(bytes.length);
    }

    private static final int[] FEED = new int[5];
    private static final byte[] ROW = new byte[8];
    private static final byte[] TEXT = "wait if 1=1or 2=2or 3=3or 4=4or 5=5or 6=6".getBytes();

    /** As many places as there can be: SENTENCES that part at once, 8 WORDS each. */
    private static void use() {
        box = new GlassBox();
        for (int s = 0; s < 16; s++) {
            for (int i = 0; i < 8; i++) {
                ROW[i] = (byte) (i == 0 ? s : 16 + (i + s) % 14);
            }
            feed(ROW);
            box.sentence(s % 8, s / 2, s % 3);
            calls++;
        }
        box.image(0);
        box.image(1);
        box.best();
        box.write(-1);
        box.guessing();
        calls += 5;
        while (more()) {
            feed(TEXT);
            if (box.habit() < 0) {
                box.back(0);
            }
            box.image(1);
            box.best();
            box.table(3, 3, 1000);
            box.parting(0);
            box.worth(0);
            box.chain();
            box.relieve(120);
            box.glossary(240, 1);
            calls += 10;
        }
    }
}
