/** The boundary cases of "ICMP (1): 8 to 1484 bytes, 8, 0, SUM right: the same comes back with 0, 0". */
public final class EchoEdgesTest {
    private static final int HIM = 0x0a000102;

    public static void main(String[] args) {
        lengthsBelow8();
        lengthsUpTo1484();
        lengthsBeyond1484();
        everyType();
        everyCode();
        everyBitOfTheSum();
        sumOfNothingAndOfAll();
        protocolsBeside();
        Check.end();
    }

    private static int ask(Lab lab, byte[] body) {
        return lab.givePacket(HIM, Frames.ip(HIM, 1, 0, 1, body));
    }

    /** Type, code and a right sum of any length, as far as there is room for them. */
    private static byte[] echo(int length) {
        byte[] b = new byte[Math.max(length, 4)];
        for (int i = 4; i < b.length; i++) {
            b[i] = (byte) (11 * i);
        }
        return Frames.part(Frames.icmp(8, 0, Frames.part(b, 4, b.length)), 0, length);
    }

    /** "8 [...] bytes". */
    private static void lengthsBelow8() {
        Lab lab = new Lab();
        for (int length = 0; length < 8; length++) {
            Check.same("of " + length, ask(lab, echo(length)), 0);
        }
        Check.same("of 1, that sums up", ask(lab, new byte[] {8}), 0);
        Check.same("of 8", ask(lab, echo(8)), 1);
        Check.same("of 9", ask(lab, echo(9)), 1);
        Check.same("packets", lab.x.count(7), 2);
    }

    private static int askInPieces(Lab lab, byte[] body) {
        int cut = 1400;
        lab.givePacket(HIM, Frames.ip(HIM, 3, 0x2000, 1, Frames.part(body, 0, cut)));
        return lab.givePacket(HIM, Frames.ip(HIM, 3, cut / 8, 1, Frames.part(body, cut, body.length)));
    }

    /** "to 1484 bytes": in one frame or in pieces. */
    private static void lengthsUpTo1484() {
        for (int length = 1481; length <= 1484; length++) {
            Lab lab = new Lab();
            Check.same("of " + length, ask(lab, echo(length)), 1);
            Check.same("in pieces, of " + length, askInPieces(lab, echo(length)), 1);
            for (int k = 0; k < 2; k++) {
                byte[] f = lab.frame(k);
                byte[] due = Frames.icmp(0, 0, Frames.part(echo(length), 4, length));
                Check.same("its answer", Frames.text(Frames.part(f, 34, f.length)), Frames.text(due));
            }
        }
    }

    private static void lengthsBeyond1484() {
        for (int length : new int[] {1485, 1486, 2000, 2800}) {
            Lab lab = new Lab();
            Check.same("of " + length, askInPieces(lab, echo(length)), 0);
            Check.same("no packet", lab.x.count(7), 0);
            Check.same("but it was a datagram", lab.x.count(5), 0);
        }
    }

    /** "8": no other type. */
    private static void everyType() {
        Lab lab = new Lab();
        for (int type = 0; type < 256; type++) {
            Check.same("type " + type, ask(lab, Frames.icmp(type, 0, new byte[4])), type == 8 ? 1 : 0);
        }
    }

    /** "0": no other code. */
    private static void everyCode() {
        Lab lab = new Lab();
        for (int code = 0; code < 256; code++) {
            Check.same("code " + code, ask(lab, Frames.icmp(8, code, new byte[4])), code == 0 ? 1 : 0);
        }
    }

    /** "SUM right": with any one bit turned it is wrong, the last odd byte's too. */
    private static void everyBitOfTheSum() {
        Lab lab = new Lab();
        for (int bit = 0; bit < 8 * 13; bit++) {
            byte[] bad = echo(13);
            bad[bit / 8] ^= (byte) (128 >> bit % 8);
            Check.same("bit " + bit, ask(lab, bad), 0);
        }
        Check.same("as it was", ask(lab, echo(13)), 1);
    }

    /** "its SUM anew": 65535 of nothing but zeros, 0 of what sums up to 65535. */
    private static void sumOfNothingAndOfAll() {
        Lab lab = new Lab();
        Check.same("zeros", ask(lab, Frames.icmp(8, 0, new byte[4])), 1);
        Check.same("their sum", Frames.number(lab.lastFrame(), 36, 2), 65535);
        Check.same("all bits of a number", ask(lab, Frames.icmp(8, 0, Frames.number(65535, 4))), 1);
        Check.same("its sum", Frames.number(lab.lastFrame(), 36, 2), 0);
        Check.same("a carry of a carry", ask(lab, Frames.icmp(8, 0, Frames.number(0xffffffff0001L, 6))), 1);
        Check.same("its sum", Frames.number(lab.lastFrame(), 36, 2), 65534);
    }

    /** "TCP is 6. Others: nothing." */
    private static void protocolsBeside() {
        Lab lab = new Lab();
        for (int protocol = 0; protocol < 256; protocol++) {
            int due = protocol == 1 ? 1 : 0;
            Check.same("protocol " + protocol, lab.givePacket(HIM, Frames.ip(HIM, 1, 0, protocol, echo(20))), due);
        }
        Check.same("packets", lab.x.count(7), 1);
    }
}
