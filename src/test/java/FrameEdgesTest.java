/** The boundary cases of frames, sentence by sentence: part 1 of the terms, up to the pieces. */
public final class FrameEdgesTest {
    private static final int HIM = 0x0a000102;
    private static final byte[] NONE = new byte[0];

    public static void main(String[] args) {
        shorterThan14();
        forAnother();
        typesBesideTheTwo();
        arpOf28BytesAtLeast();
        arpThatSaysOtherwise();
        arpThatMayDiffer();
        arpAnswerOfOne();
        everyVersion();
        everyHeaderLength();
        headerNotBeyondTheWhole();
        wholeNotBeyondWhatThereIs();
        everyBitOfTheSum();
        everyBitOfTheAddress();
        sourceByTheFrame();
        sixteenNeighbours();
        heardAgain();
        notHeardAgain();
        numberOf16Bits();
        numberWithoutANeighbour();
        sumThatIsFoldedTwice();
        Check.end();
    }

    private static byte[] ping(int source) {
        return Frames.ip(source, 1, 0, 1, Frames.icmp(8, 0, Frames.number(7, 4)));
    }

    private static byte[] frame(byte[] packet) {
        return Frames.ethernet(Frames.MINE, 5, 0x0800, packet);
    }

    private static byte[] question() {
        return Frames.ethernet(Frames.MINE, 5, 0x0806, Frames.arp(1, 9, HIM, Frames.ME));
    }

    /** A bit turned, counted from the highest of the first byte. */
    private static byte[] turned(byte[] b, int bit) {
        byte[] other = b.clone();
        other[bit / 8] ^= (byte) (128 >> bit % 8);
        return other;
    }

    /** "shorter than 14 bytes [...]: nothing": also where a longer frame stood in ROW before. */
    private static void shorterThan14() {
        Lab lab = new Lab();
        lab.give(question());
        lab.give(frame(ping(HIM)));
        for (int length = 0; length <= 14; length++) {
            Check.same("of ARP, " + length, lab.give(Frames.part(question(), 0, length)), 0);
            Check.same("of IP, " + length, lab.give(Frames.part(frame(ping(HIM)), 0, length)), 0);
        }
    }

    /** "or for another than MINE or 255:255:255:255:255:255: nothing": each bit of them. */
    private static void forAnother() {
        Lab lab = new Lab();
        byte[] all = Frames.ethernet(Frames.ALL, 5, 0x0800, ping(HIM));
        Check.same("for all", lab.give(all), 1);
        Check.same("for me", lab.give(frame(ping(HIM))), 1);
        for (int bit = 0; bit < 48; bit++) {
            Check.same("for me but bit " + bit, lab.give(turned(frame(ping(HIM + 1)), bit)), 0);
            Check.same("for all but bit " + bit, lab.give(turned(all, bit)), 0);
            Check.same("ARP for me but bit " + bit, lab.give(turned(question(), bit)), 0);
        }
        Check.same("no neighbours by that", lab.x.count(4), 1);
    }

    /** "Type 0806", "Type 0800": each bit of them. */
    private static void typesBesideTheTwo() {
        Lab lab = new Lab();
        for (int bit = 96; bit < 112; bit++) {
            Check.same("0800 but bit " + bit, lab.give(turned(frame(ping(HIM)), bit)), 0);
            Check.same("0806 but bit " + bit, lab.give(turned(question(), bit)), 0);
        }
        Check.same("no neighbours by that", lab.x.count(4), 0);
    }

    /** "with 28 bytes at least behind it". */
    private static void arpOf28BytesAtLeast() {
        Lab lab = new Lab();
        Check.same("28 bytes", lab.give(question()), 1);
        for (int length = 14; length < 42; length++) {
            Check.same(length - 14 + " bytes", lab.give(Frames.part(question(), 0, length)), 0);
        }
        Check.same("29 bytes", lab.give(Frames.join(question(), new byte[1])), 1);
        Check.same("1504 bytes", lab.give(Frames.join(question(), new byte[1476])), 1);
        Check.same("42 are answered", lab.x.size(2), 42);
    }

    /** "that say 1, 0800, 6, 4, and 1 or 2, for 10.0.0.1": each bit of them. */
    private static void arpThatSaysOtherwise() {
        Lab lab = new Lab();
        byte[] answer = Frames.ethernet(Frames.MINE, 5, 0x0806, Frames.arp(2, 9, HIM, Frames.ME));
        for (int bit = 0; bit < 8 * 28; bit++) {
            boolean told = bit < 64 || bit >= 8 * 24;
            if (told) {
                Check.same("a question but bit " + bit, lab.give(turned(question(), 112 + bit)), 0);
                Check.same("an answer but bit " + bit, lab.give(turned(answer, 112 + bit)), 0);
            }
        }
        for (int operation : new int[] {0, 3, 4, 256, 257, 65535}) {
            byte[] arp = Frames.arp(operation, 9, HIM, Frames.ME);
            Check.same("operation " + operation, lab.give(Frames.ethernet(Frames.MINE, 5, 0x0806, arp)), 0);
        }
        Check.same("no neighbours by that", lab.x.count(4), 0);
    }

    /** What is not told there may be anything: both of the sender, and the hardware that is asked for. */
    private static void arpThatMayDiffer() {
        for (int bit = 64; bit < 8 * 24; bit++) {
            Lab lab = new Lab();
            byte[] asked = turned(question(), 112 + bit);
            Check.same("bit " + bit, lab.give(asked), 1);
            Check.same("a neighbour", lab.x.count(4), 1);
            byte[] f = lab.lastFrame();
            Check.same("to the hardware that it says", Frames.number(f, 0, 6), Frames.number(asked, 22, 6));
            Check.same("with both of it", Frames.text(Frames.part(f, 32, 42)), Frames.text(Frames.part(asked, 22, 32)));
        }
        Lab lab = new Lab();
        byte[] nobody = Frames.arp(1, 0, 0, Frames.ME);
        Check.same("0.0.0.0 asks", lab.give(Frames.ethernet(Frames.ALL, 5, 0x0806, nobody)), 1);
        Check.same("and becomes a neighbour", lab.x.count(4), 1);
    }

    /** "1 is answered": 2 is not, but "the sender becomes a NEIGHBOUR" by both. */
    private static void arpAnswerOfOne() {
        for (int operation = 1; operation <= 2; operation++) {
            Lab lab = new Lab();
            byte[] arp = Frames.arp(operation, 0x0a0b0c0d0e0fL, HIM, Frames.ME);
            int due = operation == 1 ? 1 : 0;
            Check.same("operation " + operation, lab.give(Frames.ethernet(Frames.ALL, 5, 0x0806, arp)), due);
            Check.same("a neighbour", lab.x.count(4), 1);
            Check.same("no packet", lab.x.count(7), 0);
        }
    }

    /** A header with a right sum and all as it is told, whatever it is; behind it zeros. */
    private static byte[] packet(int version, int words, int whole, int there) {
        byte[] b = new byte[Math.max(there, 60)];
        b[0] = (byte) (version << 4 | words);
        b[2] = (byte) (whole >> 8);
        b[3] = (byte) whole;
        b[9] = 17;
        System.arraycopy(Frames.number(HIM, 4), 0, b, 12, 4);
        System.arraycopy(Frames.number(Frames.ME, 4), 0, b, 16, 4);
        int sum = Frames.sum(Frames.part(b, 0, Math.max(12, 4 * words)));
        System.arraycopy(Frames.number(sum, 2), 0, b, 10, 2);
        return Frames.part(b, 0, there);
    }

    /** Whether a packet was good, by the neighbour that its source becomes. */
    private static void good(String what, byte[] packet, boolean due) {
        Lab lab = new Lab();
        Check.same(what, lab.give(frame(packet)), 0);
        Check.same(what + ": neighbours", lab.x.count(4), due ? 1 : 0);
    }

    /** "version 4". */
    private static void everyVersion() {
        for (int version = 0; version < 16; version++) {
            good("version " + version, packet(version, 5, 60, 60), version == 4);
        }
    }

    /** "header of 20 bytes at least". */
    private static void everyHeaderLength() {
        for (int words = 0; words < 16; words++) {
            good("a header of " + 4 * words, packet(4, words, 60, 60), words >= 5);
        }
        for (int words = 5; words < 16; words++) {
            byte[] echo = Frames.icmp(8, 0, Frames.number(words, 4));
            Lab lab = new Lab();
            byte[] asked = Frames.ip(HIM, Frames.ME, 1, 0, 1, Frames.fill(4 * words - 20, 1), echo);
            Check.same("an echo behind a header of " + 4 * words, lab.givePacket(HIM, asked), 1);
            Check.same("comes back", Frames.number(lab.lastFrame(), 38, 4), words);
        }
    }

    /** "its length not beyond the whole one". */
    private static void headerNotBeyondTheWhole() {
        for (int words = 5; words < 16; words++) {
            good("whole as its header of " + 4 * words, packet(4, words, 4 * words, 60), true);
            good("whole one less than " + 4 * words, packet(4, words, 4 * words - 1, 60), false);
        }
        good("whole 0", packet(4, 5, 0, 60), false);
    }

    /** "that not beyond what there is". */
    private static void wholeNotBeyondWhatThereIs() {
        for (int there : new int[] {20, 21, 60, 1503, 1504}) {
            good("all of " + there, packet(4, 5, there, there), true);
            good("one more than " + there, packet(4, 5, there + 1, there), false);
            good("the most of all", packet(4, 5, 65535, there), false);
        }
        for (int there = 0; there < 20; there++) {
            good("a part of " + there, packet(4, 5, 20, there), false);
        }
        good("one less than there is", packet(4, 5, 59, 60), true);
        Lab lab = new Lab();
        lab.give(frame(Frames.join(ping(HIM), Frames.fill(30, 9))));
        Check.same("what is behind the whole does not count", lab.x.size(0), 42);
    }

    /** "its SUM right": with any one bit of the header turned it is wrong. */
    private static void everyBitOfTheSum() {
        Lab lab = new Lab();
        byte[] options = Frames.ip(HIM, Frames.ME, 1, 0, 1, Frames.fill(40, 1), Frames.icmp(8, 0, new byte[4]));
        for (int bit = 0; bit < 480; bit++) {
            Check.same("bit " + bit, lab.give(frame(turned(options, bit))), 0);
        }
        for (int bit = 0; bit < 160; bit++) {
            Check.same("bit " + bit, lab.give(frame(turned(ping(HIM), bit))), 0);
        }
        Check.same("no neighbours by that", lab.x.count(4), 0);
        Check.same("as it was", lab.give(frame(options)), 1);
    }

    /** "for 10.0.0.1 (else nothing)": each bit of it, the SUM being right. */
    private static void everyBitOfTheAddress() {
        Lab lab = new Lab();
        byte[] echo = Frames.icmp(8, 0, new byte[4]);
        for (int bit = 0; bit < 32; bit++) {
            byte[] packet = Frames.ip(HIM, Frames.ME ^ 1 << bit, 1, 0, 1, NONE, echo);
            Check.same("bit " + bit, lab.give(frame(packet)), 0);
        }
        Check.same("for all", lab.give(frame(Frames.ip(HIM, -1, 1, 0, 1, NONE, echo))), 0);
        Check.same("no neighbours by that", lab.x.count(4), 0);
    }

    /** "the source becomes a NEIGHBOUR by the frame's source": whatever the two are. */
    private static void sourceByTheFrame() {
        long[] hardware = {0, 1, Frames.MINE, Frames.ALL, 0x800000000000L};
        int[] addresses = {0, -1, Frames.ME, Integer.MIN_VALUE, Integer.MAX_VALUE};
        Lab lab = new Lab();
        for (int i = 0; i < 5; i++) {
            byte[] asked = Frames.ethernet(Frames.MINE, hardware[i], 0x0800, ping(addresses[i]));
            Check.same("an echo", lab.give(asked), 1);
            Check.same("goes to the frame's source", Frames.number(lab.lastFrame(), 0, 6), hardware[i]);
            Check.same("for the packet's source", (int) Frames.number(lab.lastFrame(), 30, 4), addresses[i]);
            Check.same("neighbours", lab.x.count(4), i + 1);
        }
    }

    /** A server with a connection of HIM, whose SYN is sent again at 1000, and n others heard after it. */
    private static Lab withOthers(int n) {
        Lab lab = new Lab();
        new Peer(lab, HIM, 5, 1).say(Frames.SYN, 1, 0, "");
        for (int i = 1; i <= n; i++) {
            lab.givePacket(HIM + i, ping(HIM + i));
        }
        return lab;
    }

    /** "16 IP addresses with hardware ones; a 17th takes the place of the one [...] longest ago". */
    private static void sixteenNeighbours() {
        Lab fifteen = withOthers(15);
        Check.same("sixteen", fifteen.x.count(4), 16);
        Check.same("the first is there", fifteen.x.tick(1000), 1);
        Lab sixteen = withOthers(16);
        Check.same("not seventeen", sixteen.x.count(4), 16);
        Check.same("the first is not there", sixteen.x.tick(1000), 0);
        Lab many = withOthers(100);
        Check.same("never more than sixteen", many.x.count(4), 16);
        Check.same("not heard again, not there again", many.x.tick(1000), 0);
    }

    private static void again(String what, byte[] frame, boolean due) {
        Lab lab = withOthers(15);
        lab.give(frame);
        lab.givePacket(HIM + 16, ping(HIM + 16));
        Check.same(what + ": sixteen", lab.x.count(4), 16);
        int made = lab.x.count(7);
        Check.same(what + ": there", lab.x.tick(1000), due ? 1 : 0);
        Check.same(what + ": made in any way", lab.x.count(7), made + 1);
    }

    /** "heard (became one, also again)": by all that makes one a NEIGHBOUR. */
    private static void heardAgain() {
        again("a question", question(), true);
        again("an answer", Frames.ethernet(Frames.ALL, 5, 0x0806, Frames.arp(2, 9, HIM, Frames.ME)), true);
        again("an echo", frame(ping(HIM)), true);
        again("a packet of a protocol unknown", frame(Frames.ip(HIM, 1, 0, 200, NONE)), true);
        again("a piece", frame(Frames.ip(HIM, 1, 0x2000, 1, new byte[8])), true);
        again("a piece that goes beyond", frame(Frames.ip(HIM, 1, 0x1fff, 1, new byte[8])), true);
        again("a wrong segment", frame(Frames.ip(HIM, 1, 0, 6, new byte[20])), true);
        Lab lab = withOthers(15);
        lab.give(Frames.ethernet(Frames.MINE, 0x77, 0x0800, ping(HIM)));
        Check.same("the same address at another place is no 17th", lab.x.count(4), 16);
        lab.x.tick(1000);
        Check.same("the place that was heard last counts", Frames.number(lab.lastFrame(), 0, 6), 0x77);
    }

    /** What is "nothing" is not heard; nor is one whose place was asked for, or to whom was sent. */
    private static void notHeardAgain() {
        again("an empty frame", NONE, false);
        again("ARP for another", Frames.ethernet(Frames.ALL, 5, 0x0806, Frames.arp(1, 9, HIM, HIM)), false);
        again("ARP of another", Frames.ethernet(Frames.ALL, 5, 0x0806, Frames.arp(1, 9, HIM + 15, Frames.ME)), false);
        again("a wrong sum", frame(turned(ping(HIM), 64)), false);
        again("a frame for another", Frames.ethernet(7, 5, 0x0800, ping(HIM)), false);
        again("an echo of another", frame(ping(HIM + 15)), false);
        Lab lab = withOthers(15);
        Check.same("sent to", lab.x.tick(1000), 1);
        lab.givePacket(HIM + 16, ping(HIM + 16));
        Check.same("is not heard", lab.x.tick(2000), 0);
    }

    /** "number (how many were made so before, its low 16 bits)": more calls than an object is promised for. */
    private static void numberOf16Bits() {
        Lab lab = new Lab();
        byte[] asked = frame(ping(HIM));
        for (int i = 0; i < 65535; i++) {
            lab.give(asked);
        }
        for (int i = 65535; i < 65538; i++) {
            lab.give(asked);
            Check.same("the number of packet " + i, Frames.number(lab.lastFrame(), 18, 2), i % 65536);
            Check.same("packets", lab.x.count(7), i + 1);
            Check.same("its sum", Frames.sum(Frames.part(lab.lastFrame(), 14, 34)), 0);
        }
    }

    /** "without one it is not sent, but has its number". */
    private static void numberWithoutANeighbour() {
        Lab lab = withOthers(16);
        int made = lab.x.count(7);
        int sent = lab.sent();
        Check.same("six times the SYN, then RST", lab.x.tick(100000), 0);
        Check.same("no frames", lab.sent(), sent);
        Check.same("seven numbers", lab.x.count(7), made + 7);
        Check.same("the connection is gone", lab.x.count(2), 0);
        lab.givePacket(HIM, ping(HIM));
        Check.same("the next number", Frames.number(lab.lastFrame(), 18, 2), made + 7);
    }

    /** "SUMS are those of the Internet": a carry of the carry comes in again, too. */
    private static void sumThatIsFoldedTwice() {
        int beside = 0x4500 + 28 + 0x4000 + 0x4001 + 0x0a00 + 0x0001;
        for (int total = 0x1fff0; total <= 0x20010; total++) {
            int source = 0xffff0000 | total - beside - 0xffff;
            Lab lab = new Lab();
            Check.same("an echo", lab.give(frame(ping(source))), 1);
            byte[] f = lab.lastFrame();
            int folded = total % 65536 + total / 65536;
            Check.same("the sum of " + total, Frames.number(f, 24, 2), 65535 - (folded % 65536 + folded / 65536));
            Check.same("is right", Frames.sum(Frames.part(f, 14, 34)), 0);
        }
    }
}
