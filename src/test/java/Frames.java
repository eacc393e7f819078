import java.io.ByteArrayOutputStream;
import java.nio.charset.StandardCharsets;

/** Makes frames by a way of its own, so that a fault of the program is not a fault of its tests. */
final class Frames {
    static final long MINE = 0x020000000001L;
    static final long ALL = 0xffffffffffffL;
    static final int ME = 0x0a000001;
    static final int FIN = 1;
    static final int SYN = 2;
    static final int RST = 4;
    static final int PSH = 8;
    static final int ACK = 16;

    private Frames() {
    }

    static byte[] text(String s) {
        return s.getBytes(StandardCharsets.ISO_8859_1);
    }

    static String text(byte[] b) {
        return new String(b, StandardCharsets.ISO_8859_1);
    }

    static byte[] join(byte[]... parts) {
        ByteArrayOutputStream out = new ByteArrayOutputStream();
        for (byte[] part : parts) {
            out.write(part, 0, part.length);
        }
        return out.toByteArray();
    }

    /** The lowest bytes of a value, the highest of them first. */
    static byte[] number(long value, int length) {
        byte[] b = new byte[length];
        for (int i = 0; i < length; i++) {
            b[i] = (byte) (value >> 8 * (length - 1 - i));
        }
        return b;
    }

    static long number(byte[] b, int at, int length) {
        long value = 0;
        for (int i = 0; i < length; i++) {
            value = value << 8 | b[at + i] & 255;
        }
        return value;
    }

    static byte[] fill(int length, int value) {
        byte[] b = new byte[length];
        java.util.Arrays.fill(b, (byte) value);
        return b;
    }

    static byte[] part(byte[] b, int from, int to) {
        return java.util.Arrays.copyOfRange(b, from, to);
    }

    static int sum(byte[] b) {
        long total = 0;
        for (int i = 0; i < b.length; i += 2) {
            total += (b[i] & 255) * 256 + (i + 1 < b.length ? b[i + 1] & 255 : 0);
        }
        while (total > 0xffff) {
            total = total % 65536 + total / 65536;
        }
        return (int) (0xffff - total);
    }

    static byte[] ethernet(long to, long from, int type, byte[] rest) {
        return join(number(to, 6), number(from, 6), number(type, 2), rest);
    }

    static byte[] arp(int operation, long hardware, int address, int target) {
        return join(number(1, 2), number(0x0800, 2), number(6, 1), number(4, 1), number(operation, 2),
                number(hardware, 6), number(address, 4), number(0, 6), number(target, 4));
    }

    /** A packet without options; place holds the flags and the offset. */
    static byte[] ip(int source, int id, int place, int protocol, byte[] body) {
        return ip(source, ME, id, place, protocol, new byte[0], body);
    }

    static byte[] ip(int source, int to, int id, int place, int protocol, byte[] options, byte[] body) {
        int header = 20 + options.length;
        byte[] front = join(number(0x40 | header / 4, 1), number(0, 1), number(header + body.length, 2),
                number(id, 2), number(place, 2), number(64, 1), number(protocol, 1));
        byte[] back = join(number(source, 4), number(to, 4), options);
        return join(front, number(sum(join(front, number(0, 2), back)), 2), back, body);
    }

    static byte[] icmp(int type, int code, byte[] rest) {
        byte[] front = join(number(type, 1), number(code, 1));
        return join(front, number(sum(join(front, number(0, 2), rest)), 2), rest);
    }

    /** A segment's bytes; ports are two: the sender's, then ours. */
    static byte[] tcp(int source, int[] ports, int[] numbers, int flags, int window,
            byte[] options, byte[] data) {
        byte[] front = join(number(ports[0], 2), number(ports[1], 2), number(numbers[0], 4),
                number(numbers[1], 4), number((20 + options.length) / 4 * 16, 1), number(flags, 1),
                number(window, 2));
        byte[] back = join(number(0, 2), options, data);
        int length = front.length + 2 + back.length;
        byte[] pseudo = join(number(source, 4), number(ME, 4), number(6, 2), number(length, 2));
        return join(front, number(sum(join(pseudo, front, number(0, 2), back)), 2), back);
    }
}
