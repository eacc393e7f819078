import java.util.NoSuchElementException;

/**
 * "Of several exceptions the first in the heading is thrown; a call that throws changes nothing:
 * ROW stays, too." Each call that is refused is made on one of two servers that are the same;
 * both must be the same still, and go on the same.
 */
public final class RefusedCallsTest {
    private static final int LEAST = Integer.MIN_VALUE;
    private static final int MOST = Integer.MAX_VALUE;
    private static final int HIM = 0x0a000102;
    private static final Class<? extends RuntimeException> STATE = IllegalStateException.class;
    private static final Class<? extends RuntimeException> ARGUMENT = IllegalArgumentException.class;
    private static final Class<? extends RuntimeException> INDEX = IndexOutOfBoundsException.class;
    private static final Class<? extends RuntimeException> NONE = NoSuchElementException.class;

    /** Makes a server in some state, always the same one. */
    interface Making {
        Lab make();
    }

    /** A call on a server. */
    interface Use {
        long on(UnikernelHttp x);
    }

    public static void main(String[] args) {
        feed();
        cut();
        arrive();
        pageWithWrongArguments();
        pageWhenThereAre32();
        pageWithBothFaults();
        damage();
        tick();
        sizeAndBytes();
        count();
        connection();
        connectionWithBothFaults();
        Check.end();
    }

    private static void refuses(String what, Making making, Class<? extends RuntimeException> due, Use use) {
        Lab touched = making.make();
        Lab untouched = making.make();
        Check.fails(what, due, () -> use.on(touched.x));
        Check.same(what + ": all is as it was", Sight.withRow(touched), Sight.withRow(untouched));
        Check.same(what + ": time goes on the same", touched.x.tick(70000), untouched.x.tick(70000));
        Check.same(what + ": all goes on the same", Sight.of(touched), Sight.of(untouched));
    }

    private static Lab fresh() {
        return new Lab();
    }

    /** Pages, neighbours, a gathering, frames that are kept no longer, connections of each state, and ROW. */
    private static Lab busy() {
        Lab lab = new Lab();
        lab.page("/", "root");
        lab.page("/long", Frames.fill(1500, 'p'));
        lab.page("/empty", "");
        lab.x.damage(0, 1, 3);
        lab.x.tick(1234);
        for (int i = 0; i < 70; i++) {
            lab.givePacket(HIM, Frames.ip(HIM, 1, 0, 1, Frames.icmp(8, 0, Frames.number(i, 4))));
        }
        lab.give(Frames.ethernet(Frames.MINE, 5, 0x0806, Frames.arp(2, 5, HIM + 1, Frames.ME)));
        lab.givePacket(HIM, Frames.ip(HIM, 1, 0x2000, 1, new byte[8]));
        new Peer(lab, HIM, 1, 9).say(Frames.SYN, 9, 0, "");
        Peer.open(lab, 2, 100, 4000).send("GET /long HTTP/1.1\r\n\r\nGET");
        Peer.open(lab, 3, 100, 0).send("GET /long HTTP/1.1\r\n\r\n");
        Peer.leaving(lab, 4, -9, 2047);
        lab.row(Frames.text("/target and the bytes of a page"));
        return lab;
    }

    private static Lab row(int length) {
        Lab lab = busy();
        lab.x.cut(0);
        lab.row(Frames.fill(length, '/'));
        return lab;
    }

    private static Lab full(byte[] row) {
        Lab lab = new Lab();
        for (int i = 0; i < 32; i++) {
            lab.page("/" + i, "page " + i);
        }
        lab.row(row);
        return lab;
    }

    private static void feed() {
        for (int length = 1981; length <= 2000; length++) {
            int n = length;
            refuses("feed behind " + n, () -> row(n), STATE, x -> x.feed(1, 2, 3, 4, 5));
        }
    }

    private static void cut() {
        for (int n : new int[] {-1, LEAST, 1, 2001, MOST}) {
            refuses("cut(" + n + ") of none", () -> fresh(), ARGUMENT, x -> x.cut(n));
        }
        for (int n : new int[] {-1, LEAST, 32, 40, 2001, MOST}) {
            refuses("cut(" + n + ") of 31", () -> busy(), ARGUMENT, x -> x.cut(n));
        }
        refuses("cut(2001) of 2000", () -> row(2000), ARGUMENT, x -> x.cut(2001));
    }

    private static void arrive() {
        for (int length : new int[] {1519, 1520, 1999, 2000}) {
            refuses("arrive of " + length, () -> row(length), ARGUMENT, x -> x.arrive());
            refuses("arrive of a ping and zeros, " + length, () -> longPing(length), ARGUMENT, x -> x.arrive());
        }
    }

    private static Lab longPing(int length) {
        byte[] ping = Frames.ip(HIM, 1, 0, 1, Frames.icmp(8, 0, new byte[4]));
        Lab lab = new Lab();
        byte[] frame = Frames.ethernet(Frames.MINE, 5, 0x0800, ping);
        lab.row(Frames.join(frame, new byte[length - frame.length]));
        return lab;
    }

    private static void pageWithWrongArguments() {
        for (int n : new int[] {0, -1, LEAST, 65, 66, MOST, 32}) {
            refuses("page(" + n + ") of 31", () -> busy(), ARGUMENT, x -> x.page(n));
        }
        refuses("page(8) with a blank at its end", () -> busy(), ARGUMENT, x -> x.page(8));
        refuses("page(1) of none", () -> fresh(), ARGUMENT, x -> x.page(1));
        refuses("page(1) of 1502", () -> row(1502), ARGUMENT, x -> x.page(1));
        refuses("page(64) of 1565", () -> row(1565), ARGUMENT, x -> x.page(64));
        refuses("page(65) of 1565", () -> row(1565), ARGUMENT, x -> x.page(65));
        refuses("page(64) of 2000", () -> row(2000), ARGUMENT, x -> x.page(64));
    }

    private static void pageWhenThereAre32() {
        refuses("a 33rd", () -> full(Frames.text("/33")), STATE, x -> x.page(3));
        refuses("a 33rd without bytes", () -> full(Frames.text("/")), STATE, x -> x.page(1));
        refuses("a 33rd of all bytes", () -> full(Frames.fill(1564, '/')), STATE, x -> x.page(64));
        refuses("there are 32, also for one of them", () -> full(Frames.text("/31new")), STATE, x -> x.page(3));
    }

    private static void pageWithBothFaults() {
        for (int n : new int[] {0, -1, 65, 4}) {
            refuses("32, and n " + n + " of 3", () -> full(Frames.text("/33")), ARGUMENT, x -> x.page(n));
        }
        refuses("32, and no target", () -> full(Frames.text("33/")), ARGUMENT, x -> x.page(3));
        refuses("32, and a blank", () -> full(Frames.text("/3 ")), ARGUMENT, x -> x.page(3));
        refuses("32, and 1501 bytes", () -> full(Frames.fill(1502, '/')), ARGUMENT, x -> x.page(1));
        refuses("32, and an empty row", () -> full(new byte[0]), ARGUMENT, x -> x.page(1));
    }

    private static void damage() {
        refuses("damage without pages", () -> fresh(), INDEX, x -> x.damage(0, 0, 1));
        int[][] none = {{-1, 0}, {LEAST, 0}, {3, 0}, {MOST, 0}, {0, -1}, {0, LEAST}, {0, 4}, {0, MOST},
            {1, 1500}, {1, -1}, {2, 0}, {2, -1}, {3, 1500}, {-1, -1}, {31, 0}, {32, 0}};
        for (int[] at : none) {
            refuses("damage(" + at[0] + ", " + at[1] + ", 255)", () -> busy(), INDEX, x -> x.damage(at[0], at[1], 255));
        }
        refuses("damage of a 33rd", () -> full(new byte[0]), INDEX, x -> x.damage(32, 0, 1));
    }

    private static void tick() {
        for (int n : new int[] {-1, LEAST, 100001, MOST}) {
            refuses("tick(" + n + ")", () -> busy(), ARGUMENT, x -> x.tick(n));
        }
    }

    private static void sizeAndBytes() {
        refuses("size(0) of none", () -> fresh(), INDEX, x -> x.size(0));
        refuses("bytes(0, 0) of none", () -> fresh(), INDEX, x -> x.bytes(0, 0));
        int sent = busy().sent();
        for (int k : new int[] {-1, LEAST, MOST, sent, sent + 1, sent - 65, sent - 66, 0}) {
            refuses("size(" + k + ")", () -> busy(), INDEX, x -> x.size(k));
            refuses("bytes(" + k + ", 0)", () -> busy(), INDEX, x -> x.bytes(k, 0));
            refuses("bytes(" + k + ", 200)", () -> busy(), INDEX, x -> x.bytes(k, 200));
        }
        for (int i : new int[] {-1, LEAST, 200, 201, MOST, 1 << 29}) {
            refuses("bytes of the newest, " + i, () -> busy(), INDEX, x -> x.bytes(sent - 1, i));
            refuses("bytes of the oldest, " + i, () -> busy(), INDEX, x -> x.bytes(sent - 64, i));
        }
    }

    private static void count() {
        for (int what : new int[] {-1, LEAST, 8, 9, MOST}) {
            refuses("count(" + what + ")", () -> busy(), ARGUMENT, x -> x.count(what));
        }
    }

    private static void connection() {
        int[][] none = {{HIM, 5}, {HIM, 0}, {HIM, 65536 + 2}, {HIM, 2 - 65536}, {HIM, LEAST}, {HIM, MOST}, {HIM + 1, 2},
            {0, 0}, {HIM - 1, 2}, {Frames.ME, 80}, {2, HIM}};
        for (int[] at : none) {
            refuses("connection(" + at[0] + ", " + at[1] + ", 0)", () -> busy(), NONE, x -> x.connection(at[0], at[1], 0));
        }
        for (int port = 1; port <= 4; port++) {
            int there = port;
            for (int what : new int[] {-1, LEAST, 12, 13, MOST}) {
                refuses("what " + what + " of " + port, () -> busy(), ARGUMENT, x -> x.connection(HIM, there, what));
            }
        }
    }

    private static void connectionWithBothFaults() {
        for (int what : new int[] {-1, LEAST, 12, 13, MOST}) {
            refuses("what " + what + " of none", () -> busy(), NONE, x -> x.connection(HIM, 5, what));
            refuses("what " + what + " of none", () -> fresh(), NONE, x -> x.connection(0, 0, what));
        }
    }
}
