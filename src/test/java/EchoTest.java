/** Promise 4: ICMP echo. */
public final class EchoTest {
    private static final int HIM = 0x0a000102;

    public static void main(String[] args) {
        Lab lab = new Lab();
        for (int length = 0; length <= 1480; length += length < 40 ? 1 : 97) {
            ask(lab, length);
        }
        ask(lab, 1479);
        ask(lab, 1480);
        twiceFolded(lab);
        tooShort(lab);
        Check.same("type 0", ping(lab, Frames.icmp(0, 0, new byte[8])), 0);
        Check.same("type 13", ping(lab, Frames.icmp(13, 0, new byte[8])), 0);
        Check.same("code 1", ping(lab, Frames.icmp(8, 1, new byte[8])), 0);
        byte[] bad = Frames.icmp(8, 0, new byte[8]);
        bad[9]++;
        Check.same("a wrong sum", ping(lab, bad), 0);
        Check.end();
    }

    private static int ping(Lab lab, byte[] body) {
        return lab.givePacket(HIM, Frames.ip(HIM, 1, 0, 1, body));
    }

    private static void ask(Lab lab, int length) {
        byte[] rest = new byte[Math.max(length, 4)];
        for (int i = 0; i < rest.length; i++) {
            rest[i] = (byte) (i * i + length);
        }
        Check.same("an echo of " + rest.length, ping(lab, Frames.icmp(8, 0, rest)), 1);
        byte[] f = lab.lastFrame();
        Check.same("its answer", Frames.text(Frames.part(f, 34, f.length)), Frames.text(Frames.icmp(0, 0, rest)));
        Check.same("its header's sum", Frames.sum(Frames.part(f, 14, 34)), 0);
        Check.same("its source and target", Frames.number(f, 26, 8), (long) Frames.ME << 32 | HIM);
    }

    /** Words whose sum, folded once, has a carry still. */
    private static void twiceFolded(Lab lab) {
        byte[] rest = Frames.join(Frames.number(1, 2), Frames.fill(10, 255));
        Check.same("an echo", ping(lab, Frames.icmp(8, 0, rest)), 1);
        Check.same("its sum", Frames.number(lab.lastFrame(), 36, 2), 0xfffe);
        byte[] asked = Frames.join(Frames.number(0xf801, 2), Frames.fill(10, 255));
        Check.same("an echo", ping(lab, Frames.icmp(8, 0, asked)), 1);
    }

    private static void tooShort(Lab lab) {
        for (int length = 4; length < 8; length++) {
            Check.same("of " + length, ping(lab, Frames.icmp(8, 0, new byte[length - 4])), 0);
        }
        for (int length = 0; length < 4; length++) {
            Check.same("of " + length, ping(lab, Frames.part(new byte[] {8, 0, -9, -1}, 0, length)), 0);
        }
    }
}
