/** The boundary cases of PIECES, sentence by sentence. */
public final class PieceEdgesTest {
    private static final int HIM = 0x0a000102;
    private static final boolean MORE = true;
    private static final boolean LAST = false;

    public static void main(String[] args) {
        whatIsAPiece();
        ofOneSourceNumberAndProtocol();
        upTo4096();
        all4096();
        multiplesOf8();
        lastOfAnyLength();
        bytesThatAreThere();
        anotherLengthTold();
        bytesBeyondTheLength();
        aByteThatLacks();
        fourGatherings();
        begunFirst();
        beyondMakesNoPlace();
        wholeOnesMakeNoPlace();
        goneAfter30000();
        begunAnew();
        Check.end();
    }

    private static int piece(Lab lab, int id, int offset, boolean more, byte[] body) {
        return lab.givePacket(HIM, Frames.ip(HIM, id, offset / 8 | (more ? 0x2000 : 0), 1, body));
    }

    private static byte[] echo(int length) {
        byte[] rest = new byte[length - 4];
        for (int i = 0; i < rest.length; i++) {
            rest[i] = (byte) (5 * i + 1);
        }
        return Frames.icmp(8, 0, rest);
    }

    private static void gatherings(String what, Lab lab, int due) {
        Check.same(what + ": gatherings", lab.x.count(5), due);
    }

    /** "PIECES (more follow, or an offset)": the other two flags make none. */
    private static void whatIsAPiece() {
        int[] whole = {0, 0x4000, 0x8000, 0xc000};
        int[] pieces = {0x2000, 0x6000, 0xa000, 0xe000, 1, 2, 256, 511, 0x4001, 0x8001, 0x2001};
        for (int place : whole) {
            Lab lab = new Lab();
            Check.same("a whole one: " + place, lab.givePacket(HIM, Frames.ip(HIM, 1, place, 1, echo(8))), 1);
            gatherings("a whole one", lab, 0);
        }
        for (int place : pieces) {
            Lab lab = new Lab();
            Check.same("a piece: " + place, lab.givePacket(HIM, Frames.ip(HIM, 1, place, 1, echo(8))), 0);
            gatherings("a piece", lab, 1);
        }
    }

    /** "of one source, number, and protocol": each bit of them. */
    private static void ofOneSourceNumberAndProtocol() {
        byte[] e = echo(16);
        byte[] rest = Frames.part(e, 8, 16);
        for (int bit = 0; bit < 56; bit++) {
            Lab lab = new Lab();
            piece(lab, 0x5a5a, 0, MORE, Frames.part(e, 0, 8));
            int source = bit < 32 ? HIM ^ 1 << bit : HIM;
            int number = bit >= 32 && bit < 48 ? 0x5a5a ^ 1 << bit - 32 : 0x5a5a;
            int protocol = bit >= 48 ? 1 ^ 1 << bit - 48 : 1;
            Check.same("but bit " + bit, lab.givePacket(source, Frames.ip(source, number, 1, protocol, rest)), 0);
            gatherings("but bit " + bit, lab, 2);
            Check.same("its own", piece(lab, 0x5a5a, 8, LAST, rest), 1);
            gatherings("its own", lab, 1);
        }
    }

    /** "of at most 4096 bytes (a PIECE that goes beyond [...]: its GATHERING, if there is one, goes, and it)". */
    private static void upTo4096() {
        int[][] pieces = {{4088, 8, 0, 1}, {4088, 8, 1, 1}, {4088, 9, 0, 0}, {4088, 16, 1, 0}, {4088, 16, 0, 0},
            {4096, 0, 0, 1}, {4096, 0, 1, 1}, {4096, 1, 0, 0}, {4096, 8, 1, 0}, {4104, 0, 0, 0}, {4104, 0, 1, 0},
            {3296, 800, 1, 1}, {3296, 801, 0, 0}, {3296, 808, 1, 0}, {65528, 8, 1, 0}, {65528, 0, 0, 0}, {65528, 1400, 0, 0}};
        for (int[] p : pieces) {
            String what = p[1] + " bytes at " + p[0];
            Lab alone = new Lab();
            Check.same(what, piece(alone, 1, p[0], p[2] == 1, new byte[p[1]]), 0);
            gatherings(what + " alone", alone, p[3]);
            Lab lab = new Lab();
            piece(lab, 1, 0, MORE, new byte[8]);
            piece(lab, 2, 0, MORE, new byte[8]);
            Check.same(what, piece(lab, 1, p[0], p[2] == 1, new byte[p[1]]), 0);
            gatherings(what + " behind others", lab, 1 + p[3]);
        }
    }

    /** A datagram of all 4096 bytes: a segment to a port that has no connection, and one to one that has. */
    private static void all4096() {
        Lab lab = new Lab();
        byte[] stray = Frames.tcp(HIM, new int[] {9, 81}, new int[] {5, 0}, 0, 100, new byte[0], new byte[4076]);
        Check.same("4096 bytes", stray.length, 4096);
        segment(lab, stray);
        Check.same("the answer", lab.lastSegment(), "RA 0 4081 0");
        Peer p = Peer.leaving(lab, 5, 1000, 2048);
        byte[] data = Frames.tcp(HIM, new int[] {5, 80}, new int[] {p.number, p.ours}, Frames.ACK, 9, new byte[0],
                new byte[4076]);
        segment(lab, data);
        Check.same("as many as there is room for", p.look(7), 2048);
        Check.same("the answer", lab.lastSegment(), "A " + p.ours + " " + (p.number + 2048) + " 0");
    }

    private static void segment(Lab lab, byte[] tcp) {
        for (int at = 3072; at >= 0; at -= 1024) {
            int place = at / 8 | (at < 3072 ? 0x2000 : 0);
            byte[] part = Frames.part(tcp, at, at + 1024);
            int due = at == 0 ? 1 : 0;
            Check.same("the piece at " + at, lab.givePacket(HIM, Frames.ip(HIM, 4, place, 6, part)), due);
        }
        gatherings("a whole segment", lab, 0);
    }

    /** "or one that is not the last and not a multiple of 8 long". */
    private static void multiplesOf8() {
        for (int length = 0; length <= 24; length++) {
            int due = length % 8 == 0 ? 1 : 0;
            Lab alone = new Lab();
            piece(alone, 1, 0, MORE, new byte[length]);
            gatherings(length + " bytes alone", alone, due);
            Lab lab = new Lab();
            piece(lab, 1, 32, MORE, new byte[8]);
            piece(lab, 1, 0, MORE, new byte[length]);
            gatherings(length + " bytes behind others", lab, due);
        }
    }

    /** The last one may be of any length, of none too. */
    private static void lastOfAnyLength() {
        for (int length = 8; length <= 24; length++) {
            byte[] e = echo(length);
            Lab lab = new Lab();
            piece(lab, 1, 0, MORE, Frames.part(e, 0, 8));
            Check.same("8 bytes and " + (length - 8), piece(lab, 1, 8, LAST, Frames.part(e, 8, length)), 1);
            Check.same("all of them", lab.x.size(0), 34 + length);
            Lab other = new Lab();
            Check.same("the last before the first", piece(other, 1, 8, LAST, Frames.part(e, 8, length)), 0);
            Check.same(length - 8 + " bytes and 8", piece(other, 1, 0, MORE, Frames.part(e, 0, 8)), 1);
        }
    }

    /** "Bytes that are there stay as they are." */
    private static void bytesThatAreThere() {
        byte[] e = echo(48);
        byte[] other = Frames.fill(48, 0x55);
        int[][] overlaps = {{16, 32}, {8, 24}, {24, 40}, {8, 40}, {0, 40}};
        for (int[] at : overlaps) {
            Lab lab = new Lab();
            piece(lab, 1, 16, MORE, Frames.part(e, 16, 32));
            byte[] mixed = other.clone();
            System.arraycopy(e, 0, mixed, 0, 16);
            System.arraycopy(e, 32, mixed, 32, 16);
            piece(lab, 1, at[0], MORE, Frames.part(mixed, at[0], at[1]));
            piece(lab, 1, 0, MORE, Frames.part(e, 0, 16));
            Check.same("over " + at[0] + " to " + at[1], piece(lab, 1, 24, LAST, Frames.part(mixed, 24, 48)), 1);
        }
    }

    /** "The last PIECE tells the length; if another was told [...]: the GATHERING goes." */
    private static void anotherLengthTold() {
        for (int length = 1; length <= 24; length++) {
            Lab lab = new Lab();
            piece(lab, 1, 16, LAST, new byte[9]);
            piece(lab, 1, 16, LAST, new byte[length]);
            gatherings("25, then " + (16 + length), lab, length == 9 ? 1 : 0);
        }
        Lab lab = new Lab();
        piece(lab, 1, 24, LAST, new byte[0]);
        piece(lab, 1, 16, LAST, new byte[8]);
        gatherings("the same by another offset", lab, 1);
        piece(lab, 1, 32, LAST, new byte[0]);
        gatherings("another by another offset", lab, 0);
    }

    /** "or bytes are there beyond it": whichever came first. */
    private static void bytesBeyondTheLength() {
        for (int told = 17; told <= 32; told++) {
            byte[] last = new byte[told - 16];
            Lab before = new Lab();
            piece(before, 1, 16, MORE, new byte[8]);
            piece(before, 1, 16, LAST, last);
            gatherings("up to 24, then told " + told, before, told < 24 ? 0 : 1);
            Lab behind = new Lab();
            piece(behind, 1, 16, LAST, last);
            piece(behind, 1, 16, MORE, new byte[8]);
            gatherings("told " + told + ", then up to 24", behind, told < 24 ? 0 : 1);
        }
        Lab lab = new Lab();
        piece(lab, 1, 24, MORE, new byte[0]);
        piece(lab, 1, 16, LAST, new byte[0]);
        gatherings("a piece without bytes has none beyond", lab, 1);
    }

    /** "If all bytes are there: they are a datagram (the GATHERING goes)": not before the last of them. */
    private static void aByteThatLacks() {
        byte[] e = echo(40);
        for (int hole = 0; hole < 40; hole += 8) {
            Lab lab = new Lab();
            for (int at = 0; at < 40; at += 8) {
                if (at != hole) {
                    Check.same("not all", piece(lab, 1, at, at < 32, Frames.part(e, at, at + 8)), 0);
                }
            }
            gatherings("without " + hole, lab, 1);
            Check.same("all", piece(lab, 1, hole, hole < 32, Frames.part(e, hole, hole + 8)), 1);
            gatherings("with " + hole, lab, 0);
            Check.same("whole", Frames.text(Frames.part(lab.lastFrame(), 38, 74)), Frames.text(Frames.part(e, 4, 40)));
        }
    }

    /** "at most 4 such GATHERINGS". */
    private static void fourGatherings() {
        Lab lab = new Lab();
        for (int id = 1; id <= 9; id++) {
            piece(lab, id, 0, MORE, new byte[8]);
            gatherings("number " + id, lab, Math.min(id, 4));
        }
    }

    /** "A fifth GATHERING takes the place of the one that was begun first". */
    private static void begunFirst() {
        byte[] e = echo(16);
        byte[] front = Frames.part(e, 0, 8);
        byte[] back = Frames.part(e, 8, 16);
        for (int gone = 1; gone <= 4; gone++) {
            Lab lab = new Lab();
            for (int id = 1; id <= 4; id++) {
                piece(lab, id, 0, MORE, front);
            }
            piece(lab, 1, 0, MORE, front);
            Check.same("one of four", piece(lab, gone, 8, LAST, back), 1);
            piece(lab, 5, 0, MORE, front);
            gatherings("a fifth where one went", lab, 4);
            piece(lab, 6, 0, MORE, front);
            gatherings("a sixth", lab, 4);
            int first = gone == 1 ? 2 : 1;
            for (int id = 6; id >= 1; id--) {
                int due = id == gone || id == first ? 0 : 1;
                Check.same("without " + gone + ": " + id, piece(lab, id, 8, LAST, back), due);
            }
        }
    }

    /** A piece that is refused begins no GATHERING, and so takes nobody's place. */
    private static void beyondMakesNoPlace() {
        byte[] e = echo(16);
        Lab lab = new Lab();
        for (int id = 1; id <= 4; id++) {
            piece(lab, id, 0, MORE, Frames.part(e, 0, 8));
        }
        piece(lab, 5, 4096, LAST, new byte[1]);
        piece(lab, 6, 0, MORE, new byte[7]);
        gatherings("four still", lab, 4);
        for (int id = 1; id <= 4; id++) {
            Check.same("number " + id, piece(lab, id, 8, LAST, Frames.part(e, 8, 16)), 1);
        }
    }

    /** What is no piece is no part of a GATHERING of its number, and takes nobody's place. */
    private static void wholeOnesMakeNoPlace() {
        byte[] e = echo(16);
        Lab lab = new Lab();
        for (int id = 1; id <= 4; id++) {
            piece(lab, id, 0, MORE, Frames.part(e, 0, 8));
        }
        for (int id = 1; id <= 5; id++) {
            Check.same("a whole one", lab.givePacket(HIM, Frames.ip(HIM, id, 0, 1, echo(40))), 1);
            Check.same("is itself", lab.lastFrame().length, 34 + 40);
            gatherings("four still", lab, 4);
        }
        for (int id = 1; id <= 4; id++) {
            Check.same("number " + id, piece(lab, id, 8, LAST, Frames.part(e, 8, 16)), 1);
            Check.same("is the pieces'", lab.lastFrame().length, 34 + 16);
        }
    }

    /** "they go 30000 ms after they were begun". */
    private static void goneAfter30000() {
        Lab lab = new Lab();
        lab.x.tick(11);
        piece(lab, 1, 0, MORE, new byte[8]);
        lab.x.tick(1);
        piece(lab, 2, 0, MORE, new byte[8]);
        piece(lab, 3, 0, MORE, new byte[8]);
        lab.x.tick(29998);
        piece(lab, 1, 8, MORE, new byte[8]);
        gatherings("after 29999", lab, 3);
        lab.x.tick(1);
        gatherings("after 30000", lab, 2);
        lab.x.tick(0);
        gatherings("no time more", lab, 2);
        lab.x.tick(1);
        gatherings("a millisecond later", lab, 0);
        piece(lab, 1, 0, MORE, new byte[8]);
        lab.x.tick(100000);
        gatherings("after 100000", lab, 0);
    }

    /** One that went is begun anew by the next piece, with nothing in it and all its time. */
    private static void begunAnew() {
        byte[] e = echo(16);
        Lab lab = new Lab();
        piece(lab, 1, 0, MORE, Frames.part(e, 0, 8));
        lab.x.tick(30000);
        Check.same("the rest of one that is gone", piece(lab, 1, 8, LAST, Frames.part(e, 8, 16)), 0);
        gatherings("begins one", lab, 1);
        lab.x.tick(29999);
        gatherings("with all its time", lab, 1);
        Check.same("is whole", piece(lab, 1, 0, MORE, Frames.part(e, 0, 8)), 1);
        piece(lab, 1, 0, MORE, Frames.fill(8, 1));
        piece(lab, 1, 8, MORE, new byte[7]);
        gatherings("gone by a wrong piece", lab, 0);
        piece(lab, 1, 0, MORE, Frames.part(e, 0, 8));
        Check.same("nothing of it is left", piece(lab, 1, 8, LAST, Frames.part(e, 8, 16)), 1);
    }
}
