/** Promises 8, 9 and 10: size, bytes and count. */
public final class SentTest {
    private static final int HIM = 0x0a000102;

    public static void main(String[] args) {
        latestAreKept();
        bytesOfAFrame();
        counts();
        Check.end();
    }

    private static int ping(Lab lab, int length) {
        byte[] rest = Frames.fill(length, length);
        return lab.givePacket(HIM, Frames.ip(HIM, 1, 0, 1, Frames.icmp(8, 0, rest)));
    }

    private static void refuses(Lab lab, int k) {
        Check.fails("size(" + k + ")", IndexOutOfBoundsException.class, () -> lab.x.size(k));
        Check.fails("bytes(" + k + ", 0)", IndexOutOfBoundsException.class, () -> lab.x.bytes(k, 0));
    }

    private static void latestAreKept() {
        Lab lab = new Lab();
        for (int i = 0; i < 130; i++) {
            refuses(lab, i);
            Check.same("an echo", ping(lab, 4 + i), 1);
            Check.same("frames", lab.sent(), i + 1);
            Check.same("the newest", lab.x.size(i), 42 + i);
            int oldest = Math.max(0, i - 63);
            Check.same("the oldest", lab.x.size(oldest), 42 + oldest);
            Check.same("its bytes", lab.x.bytes(oldest, 0) >>> 16, Lab.hardware(HIM));
            refuses(lab, oldest - 1);
        }
        refuses(lab, -1);
        refuses(lab, Integer.MIN_VALUE);
        refuses(lab, Integer.MAX_VALUE);
    }

    private static void bytesOfAFrame() {
        Lab lab = new Lab();
        ping(lab, 1480);
        Check.same("the greatest frame", lab.x.size(0), 1518);
        Check.same("its last whole eight", lab.x.bytes(0, 188), 0xc8c8c8c8c8c8c8c8L);
        Check.same("its last six", lab.x.bytes(0, 189), 0xc8c8c8c8c8c80000L);
        Check.same("behind its end", lab.x.bytes(0, 190), 0);
        Check.same("far behind its end", lab.x.bytes(0, 199), 0);
        int[] none = {-1, 200, Integer.MIN_VALUE, Integer.MAX_VALUE, 0x20000000};
        for (int i : none) {
            Check.fails("bytes(0, " + i + ")", IndexOutOfBoundsException.class, () -> lab.x.bytes(0, i));
        }
        for (int i = 0; i < 64; i++) {
            ping(lab, 4);
        }
        Check.same("no rest of an older frame in its place", lab.x.bytes(64, 5), 0x0404L << 48);
        Check.same("nor behind", lab.x.bytes(64, 100), 0);
    }

    private static void counts() {
        Lab lab = new Lab();
        lab.page("/", "x");
        Peer p = Peer.open(lab, 7);
        Peer.open(lab, 8);
        lab.x.tick(1234);
        lab.givePacket(HIM, Frames.ip(HIM, 1, 0x2000, 1, new byte[8]));
        lab.give(Frames.ethernet(Frames.MINE, 5, 0x0806, Frames.arp(1, 5, 0x0a000105, Frames.ME)));
        p.say(Frames.RST, p.number, 0, "");
        int[] due = {3, 1234, 1, 2, 2, 1, 1, 2};
        for (int what = 0; what < 8; what++) {
            Check.same("count(" + what + ")", lab.x.count(what), due[what]);
        }
        int[] none = {-1, 8, 9, Integer.MIN_VALUE, Integer.MAX_VALUE};
        for (int what : none) {
            Check.fails("count(" + what + ")", IllegalArgumentException.class, () -> lab.x.count(what));
        }
    }
}
