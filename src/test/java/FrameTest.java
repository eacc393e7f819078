/** Promise 4, part 1 of the terms: frames, ARP, IPv4 and neighbours. */
public final class FrameTest {
    private static final int HIM = 0x0a000102;

    public static void main(String[] args) {
        lengths();
        whomFramesAreFor();
        arp();
        wrongArp();
        wrongPackets();
        goodPackets();
        neighbours();
        packetNumbers();
        Check.end();
    }

    private static byte[] ping(int source) {
        return Frames.ip(source, 1, 0, 1, Frames.icmp(8, 0, Frames.number(0, 4)));
    }

    private static void lengths() {
        Lab lab = new Lab();
        lab.row(Frames.fill(1519, 0));
        Check.fails("1519 bytes", IllegalArgumentException.class, () -> lab.x.arrive());
        Check.same("the row stays", lab.x.cut(1519), 1519);
        Check.same("1518 bytes", lab.x.cut(1518), 1518);
        Check.same("1518 zeros", lab.x.arrive(), 0);
        Check.same("an empty row then", lab.x.cut(0), 0);
        Check.fails("an empty row then", IllegalArgumentException.class, () -> lab.x.cut(1));
        Check.same("an empty frame", lab.x.arrive(), 0);
        byte[] frame = Frames.ethernet(Frames.MINE, 5, 0x0800, ping(HIM));
        Check.same("13 bytes of a frame", lab.give(Frames.part(frame, 0, 13)), 0);
        Check.same("14 bytes of a frame", lab.give(Frames.part(frame, 0, 14)), 0);
        Check.same("33 bytes of a frame", lab.give(Frames.part(frame, 0, 33)), 0);
        Check.same("all but one byte", lab.give(Frames.part(frame, 0, frame.length - 1)), 0);
        Check.same("no neighbours by that", lab.x.count(4), 0);
        Check.same("all", lab.give(frame), 1);
        Check.same("more than all", lab.give(Frames.join(frame, Frames.fill(9, 3))), 1);
        Check.same("its size", lab.x.size(1), frame.length);
    }

    private static void whomFramesAreFor() {
        Lab lab = new Lab();
        Check.same("for me", lab.give(Frames.ethernet(Frames.MINE, 5, 0x0800, ping(HIM))), 1);
        Check.same("for all", lab.give(Frames.ethernet(Frames.ALL, 5, 0x0800, ping(HIM))), 1);
        Check.same("for another", lab.give(Frames.ethernet(0x020000000002L, 5, 0x0800, ping(HIM))), 0);
        Check.same("for nearly all", lab.give(Frames.ethernet(0xfffffffffffeL, 5, 0x0800, ping(HIM))), 0);
        Check.same("of another type", lab.give(Frames.ethernet(Frames.MINE, 5, 0x0801, ping(HIM))), 0);
        Check.same("for another by ARP",
                lab.give(Frames.ethernet(0x020000000002L, 5, 0x0806, Frames.arp(1, 6, HIM, Frames.ME))), 0);
    }

    private static void arp() {
        Lab lab = new Lab();
        byte[] question = Frames.arp(1, 0x0a1b2c3d4e5fL, HIM, Frames.ME);
        Check.same("a question", lab.give(Frames.ethernet(Frames.ALL, 77, 0x0806, question)), 1);
        byte[] due = Frames.ethernet(0x0a1b2c3d4e5fL, Frames.MINE, 0x0806,
                Frames.join(Frames.number(0x000108000604L, 6), Frames.number(2, 2), Frames.number(Frames.MINE, 6),
                        Frames.number(Frames.ME, 4), Frames.number(0x0a1b2c3d4e5fL, 6), Frames.number(HIM, 4)));
        Check.same("the answer", Frames.text(lab.lastFrame()), Frames.text(due));
        Check.same("a neighbour", lab.x.count(4), 1);
        Check.same("no packet", lab.x.count(7), 0);
        byte[] answer = Frames.arp(2, 0x0b, 0x0a000103, Frames.ME);
        Check.same("an answer", lab.give(Frames.ethernet(Frames.MINE, 77, 0x0806, answer)), 0);
        Check.same("a neighbour more", lab.x.count(4), 2);
        Check.same("with more behind it",
                lab.give(Frames.ethernet(Frames.MINE, 7, 0x0806, Frames.join(question, new byte[18]))), 1);
        Check.same("42 bytes again", lab.x.size(1), 42);
    }

    private static void wrongArp() {
        Lab lab = new Lab();
        byte[] good = Frames.arp(1, 9, HIM, Frames.ME);
        int[] places = {0, 1, 2, 3, 4, 5, 6, 7, 24, 25, 26, 27};
        for (int place : places) {
            byte[] bad = good.clone();
            bad[place] ^= 4;
            Check.same("wrong at " + place, lab.give(Frames.ethernet(Frames.MINE, 9, 0x0806, bad)), 0);
        }
        Check.same("operation 0", lab.give(Frames.ethernet(Frames.MINE, 9, 0x0806, Frames.arp(0, 9, HIM, Frames.ME))), 0);
        Check.same("operation 3", lab.give(Frames.ethernet(Frames.MINE, 9, 0x0806, Frames.arp(3, 9, HIM, Frames.ME))), 0);
        Check.same("27 bytes", lab.give(Frames.ethernet(Frames.MINE, 9, 0x0806, Frames.part(good, 0, 27))), 0);
        Check.same("no neighbours by that", lab.x.count(4), 0);
        Check.same("the good one", lab.give(Frames.ethernet(Frames.MINE, 9, 0x0806, good)), 1);
    }

    /** A header whose sum is right, but for what a test wants to be wrong. */
    private static byte[] header(int first, int whole, int to) {
        byte[] front = Frames.join(Frames.number(first, 1), Frames.number(0, 1), Frames.number(whole, 2),
                Frames.number(1, 2), Frames.number(0, 2), Frames.number(64, 1), Frames.number(1, 1));
        byte[] back = Frames.join(Frames.number(HIM, 4), Frames.number(to, 4));
        byte[] body = Frames.icmp(8, 0, Frames.number(0, 4));
        int length = Math.min((first & 15) * 4, 20);
        byte[] zero = Frames.part(Frames.join(front, Frames.number(0, 2), back), 0, Math.max(length, 12));
        return Frames.join(front, Frames.number(Frames.sum(zero), 2), back, body);
    }

    private static void wrongPackets() {
        Lab lab = new Lab();
        Check.same("version 5", lab.givePacket(HIM, header(0x55, 28, Frames.ME)), 0);
        Check.same("version 6", lab.givePacket(HIM, header(0x65, 28, Frames.ME)), 0);
        Check.same("a header of 16", lab.givePacket(HIM, header(0x44, 28, Frames.ME)), 0);
        Check.same("a header of 0", lab.givePacket(HIM, header(0x40, 28, Frames.ME)), 0);
        Check.same("a length below the header's", lab.givePacket(HIM, header(0x45, 19, Frames.ME)), 0);
        Check.same("a length beyond what there is", lab.givePacket(HIM, header(0x45, 29, Frames.ME)), 0);
        Check.same("for another", lab.givePacket(HIM, header(0x45, 28, 0x0a000002)), 0);
        byte[] bad = header(0x45, 28, Frames.ME);
        bad[8]++;
        Check.same("a wrong sum", lab.givePacket(HIM, bad), 0);
        byte[] longer = Frames.ip(HIM, Frames.ME, 1, 0, 1, new byte[40], new byte[0]);
        longer[3] = 59;
        longer[11]++;
        Check.same("a header beyond the whole", lab.givePacket(HIM, longer), 0);
        Check.same("no neighbours by that", lab.x.count(4), 0);
        Check.same("the good one", lab.givePacket(HIM, header(0x45, 28, Frames.ME)), 1);
    }

    private static void goodPackets() {
        Lab lab = new Lab();
        byte[] echo = Frames.icmp(8, 0, Frames.number(0x12345678, 4));
        byte[] packet = Frames.ip(HIM, Frames.ME, 1, 0, 1, Frames.fill(8, 1), echo);
        Check.same("with options", lab.givePacket(HIM, packet), 1);
        Check.same("comes back without them", lab.x.size(0), 14 + 20 + 8);
        Check.same("a bare header", lab.givePacket(HIM, Frames.ip(HIM, 1, 0, 1, new byte[0])), 0);
        Check.same("of a protocol unknown", lab.givePacket(0x0a000109, Frames.ip(0x0a000109, 1, 0, 17, echo)), 0);
        Check.same("but a neighbour", lab.x.count(4), 2);
        Check.same("flags but the one of pieces", lab.givePacket(HIM, Frames.ip(HIM, 1, 0xc000, 1, echo)), 1);
        byte[] due = Frames.ethernet(Lab.hardware(HIM), Frames.MINE, 0x0800, answer(HIM, 1,
                Frames.icmp(0, 0, Frames.number(0x12345678, 4))));
        Check.same("what is sent by IP", Frames.text(lab.lastFrame()), Frames.text(due));
    }

    private static byte[] answer(int to, int id, byte[] body) {
        byte[] front = Frames.join(Frames.number(69, 1), Frames.number(0, 1), Frames.number(20 + body.length, 2),
                Frames.number(id, 2), Frames.number(0x4000, 2), Frames.number(64, 1), Frames.number(1, 1));
        byte[] back = Frames.join(Frames.number(Frames.ME, 4), Frames.number(to, 4));
        return Frames.join(front, Frames.number(Frames.sum(Frames.join(front, Frames.number(0, 2), back)), 2), back, body);
    }

    private static void neighbours() {
        Lab lab = new Lab();
        for (int i = 0; i < 16; i++) {
            lab.givePacket(HIM + i, ping(HIM + i));
            Check.same("neighbours", lab.x.count(4), i + 1);
        }
        lab.give(Frames.ethernet(Frames.MINE, 0x99, 0x0800, ping(HIM)));
        Check.same("heard again", lab.x.count(4), 16);
        Check.same("at a new place", Frames.number(lab.lastFrame(), 0, 6), 0x99);
        lab.givePacket(HIM + 16, ping(HIM + 16));
        Check.same("never more than 16", lab.x.count(4), 16);
        Peer first = new Peer(lab, HIM + 1, 5, 1);
        Check.same("all are answered", first.say(Frames.SYN, 1, 0, ""), 1);
        for (int i = 2; i < 17; i++) {
            lab.givePacket(HIM + i, ping(HIM + i));
        }
        Check.same("the connection's neighbour is oldest, but there", lab.x.tick(1000), 1);
        lab.givePacket(HIM + 20, ping(HIM + 20));
        int made = lab.x.count(7);
        Check.same("without a neighbour nothing is sent", lab.x.tick(2000), 0);
        Check.same("but it has its number", lab.x.count(7), made + 1);
        Check.same("and is tried", first.look(9), 2);
        lab.give(Frames.ethernet(Frames.MINE, 3, 0x0806, Frames.arp(2, 0x0c0c0c0c0c0cL, HIM + 1, Frames.ME)));
        Check.same("with a neighbour again", lab.x.tick(4000), 1);
        Check.same("to where ARP said", Frames.number(lab.lastFrame(), 0, 6), 0x0c0c0c0c0c0cL);
        Check.same("its number", Frames.number(lab.lastFrame(), 18, 2), made + 1);
    }

    private static void packetNumbers() {
        Lab lab = new Lab();
        for (int i = 0; i < 70; i++) {
            lab.givePacket(HIM, ping(HIM));
            Check.same("number", Frames.number(lab.lastFrame(), 18, 2), i);
            Check.same("packets", lab.x.count(7), i + 1);
        }
    }
}
