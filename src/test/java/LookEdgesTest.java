import java.util.NoSuchElementException;

/** The boundary cases of what only looks, sentence by sentence: promises 8 to 11. */
public final class LookEdgesTest {
    private static final int HIM = 0x0a000102;

    public static void main(String[] args) {
        latest64();
        manyOfOneCall();
        behindTheEnd();
        firstOneHighest();
        from0To199();
        countsOf0To7();
        countsOfWhatGoes();
        whatOf0To11();
        numbersBeyondTheSign();
        withoutATimer();
        addressesAndPorts();
        looksChangeNothing();
        Check.end();
    }

    private static int ping(Lab lab, int length) {
        return lab.givePacket(HIM, Frames.ip(HIM, 1, 0, 1, Frames.icmp(8, 0, Frames.fill(length, length))));
    }

    /** "(from 0; the latest 64 are kept). IndexOutOfBoundsException if it is not kept." */
    private static void latest64() {
        Lab lab = new Lab();
        for (int sent = 0; sent <= 200; sent++) {
            for (int k : new int[] {-1, 0, 1, sent - 66, sent - 65, sent - 64, sent - 63, sent - 1, sent, sent + 1, sent + 64}) {
                if (k >= 0 && k < sent && k >= sent - 64) {
                    Check.same("size(" + k + ") of " + sent, lab.x.size(k), 42 + k);
                    Check.same("bytes(" + k + ", 5) of " + sent, lab.x.bytes(k, 5) >>> 48, 257L * ((4 + k) % 256));
                } else {
                    Check.fails("size(" + k + ") of " + sent, IndexOutOfBoundsException.class, () -> lab.x.size(k));
                    Check.fails("bytes(" + k + ", 5) of " + sent, IndexOutOfBoundsException.class, () -> lab.x.bytes(k, 5));
                }
            }
            ping(lab, 4 + sent);
        }
    }

    /** A call that sends more than one frame moves what is kept by as many. */
    private static void manyOfOneCall() {
        Lab lab = new Lab();
        for (int i = 0; i < 60; i++) {
            ping(lab, 4);
        }
        for (int port = 1; port <= 8; port++) {
            new Peer(lab, HIM, port, 1).say(Frames.SYN, 1, 0, "");
        }
        Check.same("sent", lab.sent(), 68);
        Check.same("the oldest", lab.x.size(4), 42);
        Check.same("eight by one call", lab.x.tick(1000), 8);
        Check.fails("not kept", IndexOutOfBoundsException.class, () -> lab.x.size(11));
        Check.same("kept", lab.x.size(12), 42);
        Check.same("the newest", lab.x.size(75), 58);
        Check.same("a hundred by two", lab.x.tick(100000), 48);
        Check.fails("not kept", IndexOutOfBoundsException.class, () -> lab.x.size(59));
        Check.same("kept", lab.x.size(60), 58);
    }

    /** "(0 behind its end)": of frames of each length by eight, whatever stood in their place before. */
    private static void behindTheEnd() {
        Lab lab = new Lab();
        for (int i = 0; i < 64; i++) {
            ping(lab, 1480);
        }
        for (int length = 4; length < 24; length++) {
            ping(lab, length);
            byte[] due = Frames.join(lab.lastFrame(), new byte[1600]);
            int k = lab.sent() - 1;
            Check.same("size", lab.x.size(k), 38 + length);
            for (int i = 0; i < 200; i++) {
                long zeros = 8 * i >= 38 + length ? 0 : Frames.number(due, 8 * i, 8);
                if (lab.x.bytes(k, i) != zeros) {
                    Check.same("bytes " + i + " of " + (38 + length), lab.x.bytes(k, i), zeros);
                }
            }
            int last = (38 + length) / 8;
            int rest = (38 + length) % 8;
            long behind = rest == 0 ? lab.x.bytes(k, last) : lab.x.bytes(k, last) << 8 * rest;
            Check.same("behind the end of " + (38 + length), behind, 0);
        }
    }

    /** "Bytes 8 * i to 8 * i + 7 [...], the first one highest". */
    private static void firstOneHighest() {
        Lab lab = new Lab();
        byte[] rest = Frames.join(new byte[6], Frames.number(0x8001020304050607L, 8), Frames.number(-1, 8));
        lab.givePacket(HIM, Frames.ip(HIM, 1, 0, 1, Frames.icmp(8, 0, Frames.join(new byte[4], rest))));
        Check.same("below 0", lab.x.bytes(0, 6), 0x8001020304050607L);
        Check.same("all bits", lab.x.bytes(0, 7), -1);
        Check.same("the first eight", lab.x.bytes(0, 0), Lab.hardware(HIM) << 16 | 0x0200);
        Check.same("the next", lab.x.bytes(0, 1), 0x0000000108004500L);
    }

    /** "or i is not 0 to 199". */
    private static void from0To199() {
        Lab lab = new Lab();
        ping(lab, 1480);
        Check.same("the greatest frame", lab.x.size(0), 1518);
        Check.same("its last bytes", lab.x.bytes(0, 189), 0xc8c8c8c8c8c80000L);
        for (int i = 190; i < 200; i++) {
            Check.same("bytes(0, " + i + ")", lab.x.bytes(0, i), 0);
        }
        for (int i : new int[] {-1, 200, 201, Integer.MIN_VALUE, Integer.MAX_VALUE, 1 << 29, 1 << 30, -(1 << 29)}) {
            Check.fails("bytes(0, " + i + ")", IndexOutOfBoundsException.class, () -> lab.x.bytes(0, i));
        }
    }

    private static void counts(String when, Lab lab, int... due) {
        for (int what = 0; what < due.length; what++) {
            Check.same(when + ": count(" + what + ")", lab.x.count(what), due[what]);
        }
        for (int what : new int[] {-1, 8, Integer.MIN_VALUE, Integer.MAX_VALUE}) {
            Check.fails(when + ": count(" + what + ")", IllegalArgumentException.class, () -> lab.x.count(what));
        }
    }

    /** "What 0: frames [...] 7: packets that were made. IllegalArgumentException for others." */
    private static void countsOf0To7() {
        Lab lab = new Lab();
        counts("at first", lab, 0, 0, 0, 0, 0, 0, 0, 0);
        lab.give(Frames.ethernet(Frames.MINE, 5, 0x0806, Frames.arp(1, 5, HIM + 1, Frames.ME)));
        counts("a question", lab, 1, 0, 0, 0, 1, 0, 0, 0);
        ping(lab, 4);
        counts("an echo", lab, 2, 0, 0, 0, 2, 0, 0, 1);
        lab.x.tick(7);
        counts("seven milliseconds", lab, 2, 7, 0, 0, 2, 0, 0, 1);
        new Peer(lab, HIM, 5, 1).say(Frames.SYN, 1, 0, "");
        counts("a connection", lab, 3, 7, 1, 1, 2, 0, 0, 2);
        lab.givePacket(HIM, Frames.ip(HIM, 1, 0x2000, 1, new byte[8]));
        counts("a gathering", lab, 3, 7, 1, 1, 2, 1, 0, 2);
        lab.page("/", "");
        counts("a page", lab, 3, 7, 1, 1, 2, 1, 1, 2);
    }

    private static void countsOfWhatGoes() {
        Lab lab = new Lab();
        Peer p = new Peer(lab, HIM, 5, 1);
        for (int i = 1; i <= 20; i++) {
            p.say(Frames.SYN, 1, 0, "");
            Check.same("connections", lab.x.count(2), 1);
            Check.same("made", lab.x.count(3), i);
            p.say(Frames.RST, 2, 0, "");
            Check.same("connections", lab.x.count(2), 0);
            Check.same("made", lab.x.count(3), i);
        }
        lab.givePacket(HIM, Frames.ip(HIM, 1, 0x2000, 1, new byte[8]));
        lab.x.tick(30000);
        Check.same("gatherings", lab.x.count(5), 0);
        Check.same("neighbours stay", lab.x.count(4), 1);
    }

    /** "what 0: its state [...] 11: when the TIMER is over", "IllegalArgumentException for others". */
    private static void whatOf0To11() {
        Lab lab = new Lab();
        lab.page("/", Frames.fill(1500, 'p'));
        lab.x.tick(9);
        Peer p = Peer.open(lab, 5, 100, 777);
        p.send("GET / HTTP/1.1\r\n\r\nGET");
        p.acknowledge(50);
        int[] due = {2, 1022, 100051, 100351, 777, 300, 65535, 3, 1491, 0, 1000, 1009};
        for (int what = 0; what < 12; what++) {
            Check.same("what " + what, p.look(what), due[what]);
        }
        lab.x.tick(1000);
        int[] then = {2, 1022, 100051, 100351, 777, 100, 200, 3, 1491, 1, 2000, 3009};
        for (int what = 0; what < 12; what++) {
            Check.same("then what " + what, p.look(what), then[what]);
        }
        for (int what : new int[] {-1, 12, 13, Integer.MIN_VALUE, Integer.MAX_VALUE}) {
            Check.fails("what " + what, IllegalArgumentException.class, () -> p.look(what));
        }
    }

    /** Numbers from 2147483648 on are told as int, and a window of 65535 as it is. */
    private static void numbersBeyondTheSign() {
        Lab lab = new Lab();
        Peer p = new Peer(lab, HIM, 5, 1);
        p.window = 65535;
        p.say(Frames.SYN, -2, 0, "");
        Check.same("NEXT", p.look(1), -1);
        Check.same("the window", p.look(4), 65535);
        p.say(Frames.ACK, -1, 100001, "x");
        Check.same("NEXT", p.look(1), 0);
    }

    /** "(-1 without)". */
    private static void withoutATimer() {
        Lab lab = new Lab();
        lab.page("/", "p");
        Peer p = Peer.open(lab, 5);
        Check.same("nothing was sent", p.look(11), -1);
        p.send("GET / HTTP/1.1\r\n\r\n");
        Check.same("something was", p.look(11), 1000);
        p.acknowledge(p.look(8));
        Check.same("all is acknowledged", p.look(11), -1);
        Peer q = Peer.leaving(lab, 6, 1, 2048);
        Check.same("in state 3", q.look(11), -1);
    }

    /** "NoSuchElementException if there is none": also of what is there under another address or port. */
    private static void addressesAndPorts() {
        Lab lab = new Lab();
        int[][] there = {{HIM, 0}, {HIM, 65535}, {-1, 80}, {0, 1}, {Integer.MIN_VALUE, 32768}};
        for (int[] at : there) {
            new Peer(lab, at[0], at[1], 1).say(Frames.SYN, 1, 0, "");
        }
        for (int[] at : there) {
            Check.same("state", lab.x.connection(at[0], at[1], 0), 1);
            for (int port : new int[] {at[1] + 65536, at[1] - 65536, at[1] + 1, at[1] - 1, ~at[1]}) {
                Check.fails("port " + port, NoSuchElementException.class, () -> lab.x.connection(at[0], port, 0));
            }
            for (int address : new int[] {at[0] + 1, at[0] - 1, ~at[0] + 7}) {
                Check.fails("address " + address, NoSuchElementException.class, () -> lab.x.connection(address, at[1], 0));
            }
        }
        new Peer(lab, HIM, 0, 1).say(Frames.RST, 2, 0, "");
        Check.fails("one that is gone", NoSuchElementException.class, () -> lab.x.connection(HIM, 0, 0));
    }

    private static void looksChangeNothing() {
        Lab lab = new Lab();
        lab.page("/", Frames.fill(1500, 'p'));
        Peer.open(lab, 5).send("GET / HTTP/1.1\r\n\r\n");
        String before = Sight.of(lab);
        Check.same("looked at again", Sight.of(lab), before);
    }
}
