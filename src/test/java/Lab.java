/** A server under test, with short ways to feed it and to look at what it sent. */
final class Lab {
    final UnikernelHttp x = new UnikernelHttp();

    void row(byte[] b) {
        int length = 0;
        for (int i = 0; i < b.length; i += 20) {
            byte[] five = java.util.Arrays.copyOfRange(b, i, i + 20);
            length = x.feed(word(five, 0), word(five, 4), word(five, 8), word(five, 12), word(five, 16));
        }
        if (length > b.length) {
            x.cut(b.length);
        }
    }

    private static int word(byte[] b, int at) {
        return (int) Frames.number(b, at, 4);
    }

    int give(byte[] frame) {
        row(frame);
        return x.arrive();
    }

    /** A packet comes from a hardware address that goes with the source. */
    int givePacket(int source, byte[] packet) {
        return give(Frames.ethernet(Frames.MINE, hardware(source), 0x0800, packet));
    }

    static long hardware(int address) {
        return 0x0a0000000000L | address & 0xffffffL;
    }

    int page(String target, byte[] content) {
        row(Frames.join(Frames.text(target), content));
        return x.page(target.length());
    }

    int page(String target, String content) {
        return page(target, Frames.text(content));
    }

    int sent() {
        return x.count(0);
    }

    byte[] frame(int k) {
        int size = x.size(k);
        byte[] b = new byte[0];
        for (int i = 0; 8 * i < size; i++) {
            b = Frames.join(b, Frames.number(x.bytes(k, i), 8));
        }
        return Frames.part(b, 0, size);
    }

    byte[] lastFrame() {
        return frame(sent() - 1);
    }

    /** How a sent segment reads: flags, its number, acknowledgement, window and data. */
    String segment(int k) {
        byte[] f = frame(k);
        if (f.length < 54 || Frames.number(f, 12, 2) != 0x0800 || f[23] != 6) {
            return "no segment";
        }
        int header = (f[46] >> 4 & 15) * 4;
        byte[] tcp = Frames.part(f, 34, f.length);
        byte[] pseudo = Frames.join(Frames.part(f, 26, 34), Frames.number(6, 2), Frames.number(tcp.length, 2));
        boolean good = Frames.sum(Frames.part(f, 14, 34)) == 0
                && Frames.sum(Frames.join(pseudo, tcp)) == 0
                && Frames.number(f, 16, 2) == f.length - 14
                && Frames.number(f, 52, 2) == 0;
        if (!good) {
            return "bad segment";
        }
        StringBuilder b = new StringBuilder();
        String names = "FSRPA";
        for (int i = 0; i < 5; i++) {
            if ((f[47] >> i & 1) != 0) {
                b.append(names.charAt(i));
            }
        }
        b.append(" ").append(Frames.number(f, 38, 4)).append(" ").append(Frames.number(f, 42, 4));
        b.append(" ").append(Frames.number(f, 48, 2));
        if (header > 20) {
            b.append(" options ").append(Long.toHexString(Frames.number(f, 54, header - 20)));
        }
        byte[] data = Frames.part(f, 34 + header, f.length);
        if (data.length > 0) {
            b.append(" ").append(data.length);
        }
        return b.toString();
    }

    String lastSegment() {
        return segment(sent() - 1);
    }

    /** The data of the segments sent from frame k on, one behind the other. */
    String data(int k) {
        StringBuilder b = new StringBuilder();
        for (int i = k; i < sent(); i++) {
            byte[] f = frame(i);
            b.append(Frames.text(Frames.part(f, 34 + (f[46] >> 4 & 15) * 4, f.length)));
        }
        return b.toString();
    }
}
