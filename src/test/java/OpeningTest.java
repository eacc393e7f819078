import java.util.NoSuchElementException;

/** Promises 4 and 11: segments without a connection, how connections begin, and how they are looked at. */
public final class OpeningTest {
    private static final byte[] NONE = new byte[0];

    public static void main(String[] args) {
        wrongSegments();
        strangers();
        synAndAck();
        options();
        eight();
        opening();
        wrongOpening();
        look();
        Check.end();
    }

    private static void wrongSegments() {
        Lab lab = new Lab();
        int him = 0x0a000102;
        byte[] good = Frames.tcp(him, new int[] {9, 80}, new int[] {5, 0}, Frames.SYN, 100, NONE, NONE);
        byte[] bad = good.clone();
        bad[17]++;
        Check.same("a wrong sum", lab.givePacket(him, Frames.ip(him, 1, 0, 6, bad)), 0);
        Check.same("19 bytes", lab.givePacket(him, Frames.ip(him, 1, 0, 6, Frames.part(good, 0, 19))), 0);
        Check.same("no bytes", lab.givePacket(him, Frames.ip(him, 1, 0, 6, NONE)), 0);
        byte[] shorter = good.clone();
        shorter[12] = 0x40;
        shorter[16] += 0x10;
        Check.same("a header of 16", lab.givePacket(him, Frames.ip(him, 1, 0, 6, shorter)), 0);
        byte[] longer = good.clone();
        longer[12] = 0x60;
        longer[16] -= 0x10;
        Check.same("a header beyond", lab.givePacket(him, Frames.ip(him, 1, 0, 6, longer)), 0);
        Check.same("no connections", lab.x.count(3), 0);
        Check.same("the good one", lab.givePacket(him, Frames.ip(him, 1, 0, 6, good)), 1);
        Check.same("a wrong sum behind it", lab.givePacket(him, Frames.ip(him, 1, 0, 6, bad)), 0);
    }

    private static void stranger(int to, int flags, int seq, int ack, String data, String due) {
        Lab lab = new Lab();
        Peer p = new Peer(lab, 0x0a000102, 7777, 1);
        int frames = p.sayTo(to, flags, seq, ack, NONE, Frames.text(data));
        Check.same("flags " + flags + " to " + to, frames, due.isEmpty() ? 0 : 1);
        if (frames == 1) {
            Check.same("flags " + flags + " to " + to, lab.lastSegment(), due);
            Check.same("its ports", Frames.number(lab.lastFrame(), 34, 4), (long) to << 16 | 7777);
        }
        Check.same("no connection", lab.x.count(3), 0);
    }

    private static void strangers() {
        stranger(80, Frames.RST, 1, 0, "", "");
        stranger(80, Frames.RST | Frames.ACK, 1, 5, "", "");
        stranger(81, Frames.RST | Frames.SYN, 1, 5, "", "");
        stranger(80, Frames.ACK, 1, 5, "", "R 5 0 0");
        stranger(80, Frames.ACK | Frames.SYN, 1, -1, "", "R 4294967295 0 0");
        stranger(80, Frames.ACK | Frames.FIN, 1, 0, "abc", "R 0 0 0");
        stranger(80, 0, 1, 5, "", "RA 0 1 0");
        stranger(80, 0, 1, 5, "abc", "RA 0 4 0");
        stranger(80, Frames.FIN, 1, 5, "abc", "RA 0 5 0");
        stranger(81, Frames.SYN, 1, 5, "", "RA 0 2 0");
        stranger(0, Frames.SYN | Frames.FIN, -1, 5, "ab", "RA 0 3 0");
        stranger(8080, Frames.SYN, 1, 5, "", "RA 0 2 0");
    }

    private static void synAndAck() {
        Lab lab = new Lab();
        Peer p = new Peer(lab, 0x0a000102, 40000, -1);
        p.window = 777;
        lab.x.tick(50);
        Check.same("SYN, FIN and data", p.say(Frames.SYN | Frames.FIN, -1, 9, "GET / HTTP/1.1\r\n\r\n"), 1);
        Check.same("the answer", lab.lastSegment(), "SA 100000 0 2048 options 2040218");
        int[] due = {1, 0, 100000, 100001, 777, 1072, 65535, 0, 0, 0, 1000, 1050};
        for (int what = 0; what < 12; what++) {
            Check.same("what " + what, p.look(what), due[what]);
        }
        Check.same("the SYN again", p.say(Frames.SYN, -1, 0, ""), 1);
        Check.same("an ACK", lab.lastSegment(), "A 100001 0 2048");
        Check.same("nothing else", p.look(0), 1);
        p.sayTo(81, Frames.ACK, 0, 100001, NONE, NONE);
        Check.same("another port is no part of it", p.look(0), 1);
        Check.same("and gets an RST", lab.lastSegment(), "R 100001 0 0");
    }

    private static void mss(int due, int... options) {
        byte[] b = new byte[options.length];
        for (int i = 0; i < b.length; i++) {
            b[i] = (byte) options[i];
        }
        Lab lab = new Lab();
        Peer p = new Peer(lab, 0x0a000102, 5, 1);
        Check.same("SYN", p.say(Frames.SYN, 1, 0, b, NONE), 1);
        Check.same("twice the MSS", p.look(5), 2 * due);
    }

    private static void options() {
        mss(536);
        mss(64, 2, 4, 0, 64);
        mss(64, 2, 4, 0, 63);
        mss(64, 2, 4, 0, 0);
        mss(65, 2, 4, 0, 65);
        mss(535, 2, 4, 2, 23);
        mss(536, 2, 4, 2, 24);
        mss(536, 2, 4, 2, 25);
        mss(536, 2, 4, 255, 255);
        mss(100, 1, 1, 1, 1, 2, 4, 0, 100);
        mss(100, 1, 2, 4, 0, 100, 0, 0, 0);
        mss(536, 0, 1, 1, 1, 2, 4, 0, 100);
        mss(100, 3, 3, 7, 1, 2, 4, 0, 100);
        mss(536, 3, 1, 2, 4, 0, 100, 0, 0);
        mss(536, 3, 0, 2, 4, 0, 100, 0, 0);
        mss(536, 3, 9, 2, 4, 0, 100, 0, 0);
        mss(536, 2, 3, 0, 1);
        mss(100, 2, 3, 1, 1, 2, 4, 0, 100);
        mss(536, 1, 2, 4, 0);
        mss(536, 1, 1, 1, 2);
        mss(200, 2, 4, 0, 100, 2, 4, 0, 200);
        mss(100, 4, 2, 2, 4, 0, 100, 1, 1);
        mss(100, 2, 4, 0, 100, 1, 1, 1, 9);
    }

    private static void eight() {
        Lab lab = new Lab();
        for (int i = 1; i <= 8; i++) {
            Peer p = new Peer(lab, 0x0a000102, i, 1);
            p.say(Frames.SYN, 1, 0, "");
            Check.same("number of ours", p.look(2), 100000 * i);
        }
        Peer ninth = new Peer(lab, 0x0a000103, 1, 1);
        Check.same("a ninth", ninth.say(Frames.SYN, 41, 0, "x"), 1);
        Check.same("is refused", lab.lastSegment(), "RA 0 43 0");
        Check.same("eight", lab.x.count(2), 8);
        Check.same("eight made", lab.x.count(3), 8);
        new Peer(lab, 0x0a000102, 3, 1).say(Frames.RST, 2, 0, "");
        Check.same("seven", lab.x.count(2), 7);
        Check.same("a ninth then", ninth.say(Frames.SYN, 1, 0, ""), 1);
        Check.same("nine made", lab.x.count(3), 9);
        Check.same("its number", ninth.look(2), 900000);
        Check.same("its state", ninth.look(0), 1);
    }

    private static void opening() {
        Lab lab = new Lab();
        Peer p = new Peer(lab, 0x0a000102, 5, 1);
        p.window = 4000;
        p.say(Frames.SYN, 1, 0, "");
        Check.same("without ACK: nothing", p.say(0, 2, 100001, "x"), 0);
        Check.same("still opening", p.look(0), 1);
        Check.same("nothing was kept", p.look(1), 2);
        lab.x.tick(3000);
        Check.same("tried twice", p.look(9), 2);
        p.window = 99;
        Check.same("the ACK", p.say(Frames.ACK, 2, 100001, ""), 0);
        int[] due = {2, 2, 100001, 100001, 99, 536, 1072, 0, 0, 0, 1000, -1};
        for (int what = 0; what < 12; what++) {
            Check.same("what " + what, p.look(what), due[what]);
        }
    }

    private static void wrongOpening() {
        int[] wrong = {100000, 100002, 0, -1};
        for (int ack : wrong) {
            Lab lab = new Lab();
            Peer p = new Peer(lab, 0x0a000102, 5, 1);
            p.say(Frames.SYN, 1, 0, "");
            Check.same("acknowledges " + ack, p.say(Frames.ACK, 2, ack, "data"), 1);
            Check.same("RST with that", lab.lastSegment(), "R " + (ack & 0xffffffffL) + " 0 0");
            Check.same("still opening", p.look(0), 1);
            Check.same("its data are not taken", p.look(1), 2);
        }
    }

    private static void look() {
        Lab lab = new Lab();
        Peer p = Peer.open(lab, 65535);
        int[] none = {-1, 12, Integer.MIN_VALUE, Integer.MAX_VALUE};
        for (int what : none) {
            Check.fails("what " + what, IllegalArgumentException.class, () -> p.look(what));
        }
        Check.fails("another port", NoSuchElementException.class, () -> lab.x.connection(p.address, 65534, 0));
        Check.fails("a port beyond", NoSuchElementException.class, () -> lab.x.connection(p.address, -1, 0));
        Check.fails("a port beyond", NoSuchElementException.class, () -> lab.x.connection(p.address, 131071, 0));
        Check.fails("another address", NoSuchElementException.class, () -> lab.x.connection(p.address + 1, 65535, 0));
        Check.same("it is there", p.look(0), 2);
    }
}
