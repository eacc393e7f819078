/** Promise 4 and 7: datagrams that come in pieces. */
public final class PiecesTest {
    private static final int HIM = 0x0a000102;
    private static final int MORE = 0x2000;

    public static void main(String[] args) {
        inOrderAndNot();
        whatIsThereStays();
        goesBeyond();
        notOfEight();
        lengthsThatDiffer();
        keys();
        fifthTakesTheFirstPlace();
        timeIsOver();
        oneAlone();
        besidesAWholeOne();
        wholeSegment();
        tooLongForAnEcho();
        emptyPieces();
        Check.end();
    }

    private static int piece(Lab lab, int id, int offset, boolean more, byte[] body) {
        return lab.givePacket(HIM, Frames.ip(HIM, id, offset / 8 | (more ? MORE : 0), 1, body));
    }

    private static byte[] echo(int length) {
        byte[] rest = new byte[length - 4];
        for (int i = 0; i < rest.length; i++) {
            rest[i] = (byte) (7 * i);
        }
        return Frames.icmp(8, 0, rest);
    }

    private static void inOrderAndNot() {
        byte[] e = echo(100);
        int[][] orders = {{0, 1, 2}, {0, 2, 1}, {1, 0, 2}, {1, 2, 0}, {2, 0, 1}, {2, 1, 0}};
        int[] cuts = {0, 24, 80, 100};
        for (int[] order : orders) {
            Lab lab = new Lab();
            for (int i = 0; i < 3; i++) {
                int n = order[i];
                int frames = piece(lab, 5, cuts[n], n < 2, Frames.part(e, cuts[n], cuts[n + 1]));
                Check.same("frames by piece " + n, frames, i == 2 ? 1 : 0);
                Check.same("gatherings", lab.x.count(5), i == 2 ? 0 : 1);
            }
            byte[] f = lab.lastFrame();
            Check.same("what comes back", Frames.text(Frames.part(f, 38, f.length)), Frames.text(Frames.part(e, 4, 100)));
        }
    }

    private static void whatIsThereStays() {
        Lab lab = new Lab();
        byte[] e = echo(40);
        piece(lab, 1, 8, true, Frames.part(e, 8, 24));
        piece(lab, 1, 0, true, Frames.join(Frames.part(e, 0, 8), Frames.fill(16, 99)));
        piece(lab, 1, 16, true, Frames.fill(8, 98));
        Check.same("the bytes that came first stand", piece(lab, 1, 24, false, Frames.part(e, 24, 40)), 1);
    }

    private static void goesBeyond() {
        Lab lab = new Lab();
        piece(lab, 1, 0, true, new byte[8]);
        piece(lab, 1, 4088, true, new byte[8]);
        Check.same("up to 4096", lab.x.count(5), 1);
        piece(lab, 1, 4088, true, new byte[16]);
        Check.same("beyond it the gathering goes", lab.x.count(5), 0);
        piece(lab, 1, 4088, false, new byte[9]);
        Check.same("none is begun by such a piece", lab.x.count(5), 0);
        piece(lab, 1, 4096, false, new byte[1]);
        Check.same("nor by one behind it", lab.x.count(5), 0);
        piece(lab, 1, 65528, false, new byte[1400]);
        Check.same("nor by the farthest", lab.x.count(5), 0);
        piece(lab, 1, 4088, false, new byte[8]);
        Check.same("a last one at the end", lab.x.count(5), 1);
    }

    private static void notOfEight() {
        Lab lab = new Lab();
        piece(lab, 1, 0, true, new byte[15]);
        Check.same("15 bytes begin none", lab.x.count(5), 0);
        piece(lab, 1, 0, true, new byte[16]);
        piece(lab, 2, 0, true, new byte[15]);
        Check.same("another's stays", lab.x.count(5), 1);
        piece(lab, 1, 16, true, new byte[15]);
        Check.same("its own goes", lab.x.count(5), 0);
    }

    private static void lengthsThatDiffer() {
        Lab lab = new Lab();
        piece(lab, 1, 16, false, new byte[5]);
        piece(lab, 1, 16, false, new byte[5]);
        Check.same("told the same twice", lab.x.count(5), 1);
        piece(lab, 1, 16, false, new byte[6]);
        Check.same("another was told", lab.x.count(5), 0);
        piece(lab, 1, 24, true, new byte[8]);
        piece(lab, 1, 16, false, new byte[8]);
        Check.same("bytes beyond the told length", lab.x.count(5), 0);
        piece(lab, 1, 16, false, new byte[8]);
        piece(lab, 1, 16, true, new byte[8]);
        Check.same("bytes up to the told length", lab.x.count(5), 1);
        piece(lab, 1, 16, true, new byte[16]);
        Check.same("bytes that come beyond it", lab.x.count(5), 0);
        byte[] e = echo(40);
        Check.same("and all begins anew", piece(lab, 1, 0, true, Frames.part(e, 0, 24)), 0);
        Check.same("whole", piece(lab, 1, 24, false, Frames.part(e, 24, 40)), 1);
    }

    private static void keys() {
        Lab lab = new Lab();
        byte[] e = echo(16);
        byte[] back = Frames.part(e, 8, 16);
        piece(lab, 1, 0, true, Frames.part(e, 0, 8));
        Check.same("of another number", piece(lab, 2, 8, false, back), 0);
        Check.same("of another source", lab.givePacket(HIM + 1, Frames.ip(HIM + 1, 1, 1, 1, back)), 0);
        Check.same("of another protocol", lab.givePacket(HIM, Frames.ip(HIM, 1, 1, 17, back)), 0);
        Check.same("four gatherings", lab.x.count(5), 4);
        Check.same("its own", piece(lab, 1, 8, false, back), 1);
        Check.same("three gatherings", lab.x.count(5), 3);
    }

    private static void fifthTakesTheFirstPlace() {
        Lab lab = new Lab();
        byte[] e = echo(16);
        for (int id = 0; id < 5; id++) {
            piece(lab, id, 0, true, Frames.part(e, 0, 8));
            lab.x.tick(1);
        }
        Check.same("four gatherings", lab.x.count(5), 4);
        for (int id = 1; id < 5; id++) {
            Check.same("number " + id, piece(lab, id, 8, false, Frames.part(e, 8, 16)), 1);
        }
        Check.same("all are gone", lab.x.count(5), 0);
        Check.same("the first was gone before", piece(lab, 0, 8, false, Frames.part(e, 8, 16)), 0);
    }

    private static void timeIsOver() {
        Lab lab = new Lab();
        byte[] e = echo(16);
        piece(lab, 1, 0, true, Frames.part(e, 0, 8));
        lab.x.tick(29999);
        Check.same("there before its time", lab.x.count(5), 1);
        piece(lab, 2, 0, true, Frames.part(e, 0, 8));
        piece(lab, 1, 0, true, Frames.part(e, 0, 8));
        Check.same("a tick", lab.x.tick(1), 0);
        Check.same("gone at its time", lab.x.count(5), 1);
        Check.same("the other is there", piece(lab, 2, 8, false, Frames.part(e, 8, 16)), 1);
    }

    private static void oneAlone() {
        Lab lab = new Lab();
        lab.x.tick(77);
        piece(lab, 1, 0, true, new byte[8]);
        lab.x.tick(29999);
        Check.same("there before its time", lab.x.count(5), 1);
        lab.x.tick(1);
        Check.same("gone at its time", lab.x.count(5), 0);
    }

    private static void besidesAWholeOne() {
        Lab lab = new Lab();
        byte[] e = echo(40);
        piece(lab, 7, 0, true, Frames.part(e, 0, 24));
        Check.same("a whole one of the same number", lab.givePacket(HIM, Frames.ip(HIM, 7, 0, 1, echo(8))), 1);
        Check.same("is no piece", lab.x.count(5), 1);
        Check.same("the pieces", piece(lab, 7, 24, false, Frames.part(e, 24, 40)), 1);
        Check.same("are another datagram", lab.lastFrame().length, 34 + 40);
        Check.same("a whole one then", lab.givePacket(HIM, Frames.ip(HIM, 7, 0, 1, echo(9))), 1);
        Check.same("is itself", lab.lastFrame().length, 34 + 9);
    }

    private static void wholeSegment() {
        Lab lab = new Lab();
        byte[] syn = Frames.tcp(HIM, new int[] {9, 80}, new int[] {5, 0}, Frames.SYN, 100, new byte[0], new byte[0]);
        lab.givePacket(HIM, Frames.ip(HIM, 1, 2, 6, Frames.part(syn, 16, 20)));
        Check.same("a SYN in pieces", lab.givePacket(HIM, Frames.ip(HIM, 1, MORE, 6, Frames.part(syn, 0, 16))), 1);
        Check.same("the answer", lab.lastSegment(), "SA 100000 6 2048 options 2040218");
    }

    private static void tooLongForAnEcho() {
        for (int length = 1483; length <= 1486; length++) {
            Lab lab = new Lab();
            byte[] e = echo(length);
            piece(lab, 1, 0, true, Frames.part(e, 0, 800));
            int due = length <= 1484 ? 1 : 0;
            Check.same("an echo of " + length, piece(lab, 1, 800, false, Frames.part(e, 800, length)), due);
            Check.same("is no longer gathered", lab.x.count(5), 0);
        }
    }

    private static void emptyPieces() {
        Lab lab = new Lab();
        byte[] e = echo(16);
        piece(lab, 1, 0, true, new byte[0]);
        Check.same("none of 8 is a multiple of it", lab.x.count(5), 1);
        piece(lab, 1, 0, true, e);
        Check.same("the last one may be empty", piece(lab, 1, 16, false, new byte[0]), 1);
    }
}
