/** The boundary cases of TCP's segments and of those without a connection, sentence by sentence. */
public final class SegmentEdgesTest {
    private static final int HIM = 0x0a000102;
    private static final byte[] NONE = new byte[0];

    public static void main(String[] args) {
        twentyBytesAtLeast();
        headerLengths();
        everyBitOfTheSum();
        sumsOfOddLengthsAndCarries();
        lenOfAll();
        numbersWrapAround();
        optionsOfASyn();
        optionsThatDoNotFit();
        leastAndMostMss();
        optionsWithoutSyn();
        resetsAreNothing();
        acknowledgementsAreReset();
        portsBeside80();
        upToEight();
        byAddressAndPort();
        windowOfTheOther();
        nextBehindTheSyn();
        dataAndFinOfASyn();
        oursByHowManyWereMade();
        Check.end();
    }

    private static int give(Lab lab, byte[] tcp) {
        return lab.givePacket(HIM, Frames.ip(HIM, 1, 0, 6, tcp));
    }

    private static byte[] tcp(int port, int flags, int seq, int ack, byte[] options, byte[] data) {
        return Frames.tcp(HIM, new int[] {9, port}, new int[] {seq, ack}, flags, 100, options, data);
    }

    /** The segment with its sum made right again. */
    private static byte[] summed(byte[] tcp) {
        byte[] b = tcp.clone();
        if (b.length >= 18) {
            b[16] = 0;
            b[17] = 0;
            byte[] pseudo = Frames.join(Frames.number(HIM, 4), Frames.number(Frames.ME, 4), Frames.number(6, 2),
                    Frames.number(b.length, 2));
            System.arraycopy(Frames.number(Frames.sum(Frames.join(pseudo, b)), 2), 0, b, 16, 2);
        }
        return b;
    }

    /** "header of 20 bytes at least". */
    private static void twentyBytesAtLeast() {
        Lab lab = new Lab();
        byte[] good = tcp(81, 0, 1, 0, NONE, NONE);
        for (int length = 0; length < 20; length++) {
            Check.same(length + " bytes", give(lab, summed(Frames.part(good, 0, length))), 0);
        }
        Check.same("20 bytes", give(lab, good), 1);
    }

    /** "its length not beyond": of all lengths that it can tell, with as much there, less, and more. */
    private static void headerLengths() {
        for (int words = 0; words < 16; words++) {
            for (int there = 20; there <= 64; there++) {
                byte[] b = new byte[there];
                System.arraycopy(tcp(81, 0, 1, 0, NONE, NONE), 0, b, 0, 20);
                b[12] = (byte) (words << 4);
                boolean due = words >= 5 && 4 * words <= there;
                Lab lab = new Lab();
                Check.same("a header of " + 4 * words + " of " + there, give(lab, summed(b)), due ? 1 : 0);
                if (due) {
                    Check.same("LEN", lab.lastSegment(), "RA 0 " + (1 + there - 4 * words) + " 0");
                }
            }
        }
    }

    /** "SUM right (else nothing)": with any one bit turned it is wrong. */
    private static void everyBitOfTheSum() {
        Lab lab = new Lab();
        byte[] good = tcp(81, Frames.FIN, 0x12345678, 0, NONE, Frames.text("odd"));
        for (int bit = 0; bit < 8 * good.length; bit++) {
            byte[] bad = good.clone();
            bad[bit / 8] ^= (byte) (128 >> bit % 8);
            Check.same("bit " + bit, give(lab, bad), 0);
        }
        Check.same("as it was", give(lab, good), 1);
        byte[] swapped = Frames.tcp(HIM + 1, new int[] {9, 81}, new int[] {1, 0}, 0, 100, NONE, NONE);
        Check.same("with another's address in its sum", give(lab, swapped), 0);
    }

    /** "SUM": of data of each length, and where carries come in again twice. */
    private static void sumsOfOddLengthsAndCarries() {
        Lab lab = new Lab();
        for (int length = 0; length < 40; length++) {
            Check.same(length + " bytes", give(lab, tcp(81, 0, 1, 0, NONE, Frames.fill(length, 255))), 1);
            Check.same("LEN", lab.lastSegment(), "RA 0 " + (1 + length) + " 0");
        }
        for (int ack = 0; ack < 65536; ack += 5) {
            give(lab, tcp(81, Frames.ACK, 1, 0xffff0000 | ack, NONE, NONE));
            byte[] f = lab.lastFrame();
            byte[] zero = Frames.join(Frames.part(f, 34, 50), new byte[2], Frames.part(f, 52, 54));
            byte[] pseudo = Frames.join(Frames.part(f, 26, 34), Frames.number(6, 2), Frames.number(20, 2));
            if (Frames.number(f, 50, 2) != Frames.sum(Frames.join(pseudo, zero))) {
                Check.yes("the sum with number " + ack, false);
            }
        }
    }

    /** "LEN is how many bytes it has, and 1 for SYN, 1 for FIN." */
    private static void lenOfAll() {
        for (int length : new int[] {0, 1, 2, 535, 536, 537, 1464}) {
            for (int flags = 0; flags < 4; flags++) {
                Lab lab = new Lab();
                int len = length + (flags & 1) + (flags >> 1 & 1);
                Check.same("flags " + flags, give(lab, tcp(79, flags, 50, 0, NONE, new byte[length])), 1);
                Check.same("LEN " + len, lab.lastSegment(), "RA 0 " + (50 + len) + " 0");
            }
        }
        Lab lab = new Lab();
        give(lab, tcp(79, Frames.PSH | 32 | 64 | 128, 50, 0, NONE, NONE));
        Check.same("other flags are of no length", lab.lastSegment(), "RA 0 50 0");
    }

    /** "Numbers are mod 4294967296". */
    private static void numbersWrapAround() {
        int[] numbers = {-1, -2, -3, Integer.MAX_VALUE, Integer.MIN_VALUE, 0};
        for (int number : numbers) {
            Lab lab = new Lab();
            give(lab, tcp(79, Frames.FIN, number, 0, NONE, Frames.text("x")));
            Check.same("behind " + number, lab.lastSegment(), "RA 0 " + (number + 2 & 0xffffffffL) + " 0");
            give(lab, tcp(80, Frames.ACK, 7, number, NONE, NONE));
            Check.same("its acknowledgement", lab.lastSegment(), "R " + (number & 0xffffffffL) + " 0 0");
        }
    }

    private static void mss(String what, int due, int... options) {
        byte[] b = new byte[(options.length + 3) / 4 * 4];
        for (int i = 0; i < options.length; i++) {
            b[i] = (byte) options[i];
        }
        Lab lab = new Lab();
        Peer p = new Peer(lab, HIM, 5, 1);
        Check.same(what, p.say(Frames.SYN, 1, 0, b, NONE), 1);
        Check.same(what + ": SPAN is 2 MSS", p.look(5), 2 * due);
    }

    /** "Options of a SYN are read (0 ends, 1 is one byte, others by their length". */
    private static void optionsOfASyn() {
        mss("none", 536);
        mss("alone", 100, 2, 4, 0, 100);
        mss("behind 0", 536, 0, 2, 4, 0, 100);
        mss("behind 0 that looks like one of 2", 536, 0, 2, 2, 4, 0, 100);
        mss("behind 0 that looks like one of 4", 536, 0, 4, 0, 0, 2, 4, 0, 100);
        mss("behind 1 and 0", 536, 1, 0, 2, 2, 4, 0, 100);
        mss("behind 1", 100, 1, 2, 4, 0, 100);
        mss("behind 1 that looks like one of 4", 100, 1, 4, 2, 2, 4, 0, 100);
        mss("before 0", 100, 2, 4, 0, 100, 0, 9, 9, 9);
        mss("behind one of 2", 100, 9, 2, 2, 4, 0, 100);
        mss("behind one of 3", 100, 9, 3, 0, 2, 4, 0, 100);
        mss("behind one of 36", 100, join(new int[] {9, 36}, new int[34], new int[] {2, 4, 0, 100}));
        int[] ones = new int[36];
        java.util.Arrays.fill(ones, 1);
        mss("at the end of 40", 100, join(ones, new int[] {2, 4, 0, 100}));
        mss("behind 0 in what another has", 100, 9, 4, 0, 0, 2, 4, 0, 100);
        mss("in what another has", 536, 9, 6, 2, 4, 0, 100, 1, 1);
        mss("2 of length 2", 100, 2, 2, 2, 4, 0, 100);
        mss("2 of length 3", 536, 2, 3, 1, 1);
        mss("2 of length 5", 536, 2, 5, 0, 100, 0);
        mss("2 of length 6", 536, 2, 6, 0, 100, 0, 0);
    }

    private static int[] join(int[]... parts) {
        int[] all = new int[40];
        int length = 0;
        for (int[] part : parts) {
            System.arraycopy(part, 0, all, length, part.length);
            length += part.length;
        }
        return java.util.Arrays.copyOf(all, length);
    }

    /** "which must be 2 at least and fit, else they end)". */
    private static void optionsThatDoNotFit() {
        mss("of length 0", 536, 9, 0, 2, 4, 0, 100);
        mss("of length 1", 536, 9, 1, 2, 4, 0, 100);
        mss("one that just fits", 100, 2, 4, 0, 100, 9, 4, 0, 0);
        mss("one too long, behind it", 100, 2, 4, 0, 100, 9, 5, 0, 0);
        mss("one too long, before it", 536, 9, 9, 2, 4, 0, 100, 1, 1);
        mss("one of length 255", 536, 9, 255, 2, 4, 0, 100);
        mss("MSS that just fits", 100, 2, 4, 0, 100);
        mss("MSS of which a byte lacks", 536, 1, 2, 4, 0);
        mss("MSS of which two bytes lack", 536, 1, 1, 2, 4);
        mss("MSS without a length", 536, 1, 1, 1, 2);
        mss("another without a length", 100, 2, 4, 0, 100, 1, 1, 1, 9);
        byte[] options = {1, 2, 4, 0};
        Lab lab = new Lab();
        Peer p = new Peer(lab, HIM, 5, 1);
        p.say(Frames.SYN, 1, 0, options, new byte[] {100, 100, 100});
        Check.same("data are no part of it", p.look(5), 1072);
    }

    /** "2 4 tells the MSS (536 without; it is at least 64, at most 536)". */
    private static void leastAndMostMss() {
        int[][] told = {{0, 64}, {1, 64}, {63, 64}, {64, 64}, {65, 65}, {255, 255}, {256, 256}, {535, 535}, {536, 536},
            {537, 536}, {32767, 536}, {32768, 536}, {65535, 536}};
        for (int[] t : told) {
            mss("told " + t[0], t[1], 2, 4, t[0] >> 8, t[0] & 255);
        }
    }

    /** "Options of a SYN are read": no others. */
    private static void optionsWithoutSyn() {
        Lab lab = new Lab();
        lab.page("/", Frames.fill(1500, 'p'));
        Peer p = new Peer(lab, HIM, 5, 1);
        p.window = 4000;
        p.say(Frames.SYN, 1, 0, "");
        byte[] options = {2, 4, 0, 100};
        p.say(Frames.ACK, 2, 100001, options, Frames.text("GET / HTTP/1.1\r\n\r\n"));
        Check.same("segments of 536", lab.lastSegment(), "A 100537 20 2048 536");
        p.say(Frames.ACK, 20, 100537, options, NONE);
        Check.same("SPAN", p.look(5), 3 * 536);
    }

    /** "WITHOUT ONE (or another port): RST: nothing": whatever else it has. */
    private static void resetsAreNothing() {
        for (int flags = 0; flags < 256; flags++) {
            if ((flags & Frames.RST) != 0) {
                Lab lab = new Lab();
                Check.same("flags " + flags, give(lab, tcp(80, flags, 1, 5, NONE, Frames.text("x"))), 0);
                Check.same("flags " + flags, give(lab, tcp(81, flags, 1, 5, NONE, Frames.text("x"))), 0);
                Check.same("no connection", lab.x.count(3), 0);
            }
        }
    }

    /** "With ACK: RST, number its acknowledgement": whatever else it has. */
    private static void acknowledgementsAreReset() {
        for (int flags = 0; flags < 256; flags++) {
            boolean due = (flags & Frames.ACK) != 0 && (flags & Frames.RST) == 0;
            for (int port = 80; due && port <= 81; port++) {
                Lab lab = new Lab();
                Check.same("flags " + flags, give(lab, tcp(port, flags, 1, 77, NONE, Frames.text("x"))), 1);
                Check.same("flags " + flags, lab.lastSegment(), "R 77 0 0");
                Check.same("no connection", lab.x.count(3), 0);
            }
        }
    }

    /** "SYN to port 80 [...] Else RST and ACK". */
    private static void portsBeside80() {
        for (int port : new int[] {0, 79, 81, 80 + 256, 80 << 8, 32768 + 80, 65535}) {
            Lab lab = new Lab();
            give(lab, tcp(port, Frames.SYN, 7, 0, NONE, NONE));
            Check.same("port " + port, lab.lastSegment(), "RA 0 8 0");
            Check.same("from " + port, Frames.number(lab.lastFrame(), 34, 2), port);
            Check.same("no connection", lab.x.count(3), 0);
        }
        for (int flags : new int[] {Frames.SYN, Frames.SYN | Frames.PSH, Frames.SYN | 32, Frames.SYN | 192}) {
            Lab lab = new Lab();
            Check.same("port 80, flags " + flags, give(lab, tcp(80, flags, 7, 0, NONE, NONE)), 1);
            Check.same("a connection", lab.x.count(3), 1);
        }
        Lab lab = new Lab();
        give(lab, tcp(80, 0, 7, 0, NONE, NONE));
        Check.same("port 80 without SYN", lab.lastSegment(), "RA 0 7 0");
        Check.same("no connection", lab.x.count(3), 0);
    }

    /** "up to 8 CONNECTIONS", "with less than 8". */
    private static void upToEight() {
        for (int gone = 1; gone <= 8; gone++) {
            Lab lab = new Lab();
            for (int port = 1; port <= 8; port++) {
                new Peer(lab, HIM, port, 1).say(Frames.SYN, 1, 0, "");
                Check.same("connections", lab.x.count(2), port);
            }
            Peer ninth = new Peer(lab, HIM, 9, 1);
            ninth.say(Frames.SYN | Frames.FIN, 1, 0, "x");
            Check.same("a ninth", lab.lastSegment(), "RA 0 4 0");
            Check.same("a ninth with ACK", ninth.say(Frames.SYN | Frames.ACK, 1, 3, ""), 1);
            Check.same("a ninth with ACK", lab.lastSegment(), "R 3 0 0");
            Check.same("a ninth with RST", ninth.say(Frames.SYN | Frames.RST, 1, 3, ""), 0);
            Check.same("eight made", lab.x.count(3), 8);
            new Peer(lab, HIM, gone, 1).say(Frames.RST, 2, 0, "");
            Check.same("seven", lab.x.count(2), 7);
            Check.same("a ninth then", ninth.say(Frames.SYN, 1, 0, ""), 1);
            Check.same("eight", lab.x.count(2), 8);
            Check.same("nine made", lab.x.count(3), 9);
            for (int port = 1; port <= 9; port++) {
                Peer p = new Peer(lab, HIM, port, 1);
                Check.same("port " + port, p.isThere() ? 1 : 0, port == gone ? 0 : 1);
                if (port != gone) {
                    Check.same("its number", p.look(2), 100000 * port);
                }
            }
        }
    }

    /** "each by the other's address and port". */
    private static void byAddressAndPort() {
        Lab lab = new Lab();
        int[][] others = {{HIM, 1}, {HIM, 2}, {HIM + 1, 1}, {HIM + 1, 2}, {-1, 65535}, {0, 0}};
        for (int[] other : others) {
            new Peer(lab, other[0], other[1], 1).say(Frames.SYN, other[0] + other[1], 0, "");
        }
        Check.same("connections", lab.x.count(2), 6);
        for (int i = 0; i < 6; i++) {
            Check.same("NEXT", lab.x.connection(others[i][0], others[i][1], 1), others[i][0] + others[i][1] + 1);
            Check.same("OURS", lab.x.connection(others[i][0], others[i][1], 2), 100000 * (i + 1));
        }
        new Peer(lab, HIM, 2, 1).say(Frames.RST, HIM + 3, 0, "");
        Check.same("one goes", lab.x.count(2), 5);
        for (int i = 0; i < 6; i++) {
            Check.same("there", new Peer(lab, others[i][0], others[i][1], 1).isThere() ? 1 : 0, i == 1 ? 0 : 1);
        }
    }

    /** "the other's window is the segment's". */
    private static void windowOfTheOther() {
        for (int window : new int[] {0, 1, 32767, 32768, 65535}) {
            Lab lab = new Lab();
            Peer p = new Peer(lab, HIM, 5, 1);
            p.window = window;
            p.say(Frames.SYN, 1, 0, "");
            Check.same("window", p.look(4), window);
        }
    }

    /** "NEXT its number and 1". */
    private static void nextBehindTheSyn() {
        int[][] numbers = {{0, 1}, {-1, 0}, {-2, -1}, {Integer.MAX_VALUE, Integer.MIN_VALUE}, {Integer.MIN_VALUE, Integer.MIN_VALUE + 1}};
        for (int[] n : numbers) {
            Lab lab = new Lab();
            Peer p = new Peer(lab, HIM, 5, 1);
            p.say(Frames.SYN, n[0], 0, "");
            Check.same("NEXT behind " + n[0], p.look(1), n[1]);
            Check.same("acknowledged", lab.lastSegment(), "SA 100000 " + (n[1] & 0xffffffffL) + " 2048 options 2040218");
        }
    }

    /** "its data and FIN count for nothing". */
    private static void dataAndFinOfASyn() {
        Lab lab = new Lab();
        Peer p = new Peer(lab, HIM, 5, 1);
        p.say(Frames.SYN | Frames.FIN, 1, 0, "GET / HTTP/1.0\r\n\r\n");
        Check.same("NEXT", p.look(1), 2);
        Check.same("the INBOX", p.look(7), 0);
        Check.same("the ACK", p.say(Frames.ACK, 2, 100001, ""), 0);
        Check.same("nothing to read", p.look(8), 0);
        p.say(Frames.ACK, 2, 100001, "abc");
        Check.same("bytes come at the SYN's data's place", p.look(1), 5);
    }

    /** "OURS 100000 times how many CONNECTIONS were made (with it)": those that are gone, too. */
    private static void oursByHowManyWereMade() {
        Lab lab = new Lab();
        for (int i = 1; i <= 60; i++) {
            Peer p = new Peer(lab, HIM, 5, 1);
            p.say(Frames.SYN, 1, 0, "");
            Check.same("OURS", p.look(2), 100000 * i);
            Check.same("the next one", p.look(3), 100000 * i + 1);
            Check.same("sent", lab.lastSegment(), "SA " + 100000 * i + " 2 2048 options 2040218");
            p.say(Frames.RST, 2, 0, "");
            Check.same("made", lab.x.count(3), i);
            Check.same("there", lab.x.count(2), 0);
        }
    }
}
