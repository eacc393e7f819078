import com.sun.management.ThreadMXBean;
import java.lang.management.ManagementFactory;

/** All calls of a run live in one room: rows are made with the object, and calls make nothing. */
public final class RoomTest {
    private static final ThreadMXBean THREADS = (ThreadMXBean) ManagementFactory.getThreadMXBean();
    private static final String GET = "GET / HTTP/1.1\r\n\r\n";

    /** Something that tells how many bytes its calls made. */
    interface Measure {
        long bytes();
    }

    public static void main(String[] args) {
        if (!THREADS.isThreadAllocatedMemorySupported()) {
            System.out.println("this machine does not tell what is made");
            return;
        }
        Check.yes("an object's rows", least(RoomTest::object) < 400000);
        Check.yes("time makes nothing", least(RoomTest::ticks) < 5000);
        Check.yes("what feeds and what looks makes nothing", least(RoomTest::looks) < 5000);
        Check.yes("a frame that is answered much makes nothing", least(RoomTest::arrival) < 5000);
        Check.end();
    }

    /** The machine tells too much now and then, but never too little. */
    private static long least(Measure measure) {
        long least = Long.MAX_VALUE;
        for (int i = 0; i < 7; i++) {
            least = Math.min(least, measure.bytes());
        }
        return least;
    }

    private static long made() {
        return THREADS.getCurrentThreadAllocatedBytes();
    }

    private static long object() {
        long before = made();
        UnikernelHttp x = new UnikernelHttp();
        return made() - before + x.count(0);
    }

    private static Lab lab() {
        Lab lab = new Lab();
        lab.page("/", Frames.fill(1500, 'p'));
        return lab;
    }

    /** Eight connections that are probed, or tried again. */
    private static long ticks() {
        Lab lab = lab();
        for (int port = 1; port <= 8; port++) {
            Peer.open(lab, port, 64, port % 2 * 4000).send(GET + GET);
        }
        long before = made();
        for (int i = 0; i < 400; i++) {
            lab.x.tick(100000);
        }
        return made() - before;
    }

    private static long looks() {
        Lab lab = lab();
        Peer p = Peer.open(lab, 5, 64, 65535);
        long before = made();
        for (int i = 0; i < 400; i++) {
            lab.x.feed(0x02000000, 0x00010a00, 0x01020304, 0x08004500, 0);
            lab.x.arrive();
            lab.x.size(lab.x.count(0) - 1);
            lab.x.bytes(lab.x.count(0) - 1, i % 200);
            lab.x.connection(p.address, p.port, i % 12);
            lab.x.damage(0, i, i);
        }
        return made() - before;
    }

    /** Requests whose answers fill the OUTBOX, and open it all. */
    private static long arrival() {
        Lab lab = lab();
        Peer p = Peer.open(lab, 5, 64, 65535);
        byte[] data = Frames.text(GET + GET + "A / HTTP/1.1\r\n\r\n".repeat(40));
        byte[] tcp = Frames.tcp(p.address, new int[] {p.port, 80}, new int[] {p.number, p.ours}, Frames.ACK, 65535,
                new byte[0], data);
        lab.row(Frames.ethernet(Frames.MINE, 5, 0x0800, Frames.ip(p.address, 7, 0, 6, tcp)));
        long before = made();
        lab.x.arrive();
        long bytes = made() - before;
        Check.same("answers", p.look(8), 2 * 1541 + 18 * 54);
        return bytes;
    }
}
