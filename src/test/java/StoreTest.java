/** Promises 5 and 6: page and damage. */
public final class StoreTest {
    public static void main(String[] args) {
        wrongPages();
        targets();
        insteadOfOne();
        thirtyTwo();
        damage();
        sums();
        Check.end();
    }

    private static void refuses(String what, byte[] row, int n) {
        Lab lab = new Lab();
        lab.row(row);
        Check.fails(what, IllegalArgumentException.class, () -> lab.x.page(n));
        Check.same(what + ": no page", lab.x.count(6), 0);
        Check.same(what + ": the row stays", lab.x.cut(row.length), row.length);
    }

    private static void wrongPages() {
        refuses("n 0", Frames.text("/a"), 0);
        refuses("n -1", Frames.text("/a"), -1);
        refuses("n 65", Frames.fill(70, '/'), 65);
        refuses("the least n", Frames.text("/a"), Integer.MIN_VALUE);
        refuses("the greatest n", Frames.text("/a"), Integer.MAX_VALUE);
        refuses("a row too short", Frames.text("/a"), 3);
        refuses("an empty row", new byte[0], 1);
        refuses("no / at first", Frames.text("a/"), 2);
        refuses("a blank", Frames.text("/a b"), 4);
        refuses("byte 127", new byte[] {'/', 127}, 2);
        refuses("byte 255", new byte[] {'/', -1}, 2);
        refuses("byte 0", new byte[] {'/', 0}, 2);
        refuses("1501 bytes", Frames.fill(1502, '/'), 1);
    }

    private static void targets() {
        Lab lab = new Lab();
        Check.same("the shortest, empty", lab.page("/", ""), 1);
        Check.same("the row is empty then", lab.x.cut(0), 0);
        Check.fails("the row is empty then", IllegalArgumentException.class, () -> lab.x.cut(1));
        Check.same("bytes 33 and 126", lab.page("/!~", "x"), 2);
        Check.same("64 bytes", lab.page(Frames.text(Frames.fill(64, '/')), Frames.fill(1500, 7)), 3);
        Check.same("the last byte of 1500", lab.x.damage(2, 1499, 0), 7);
        Check.same("count", lab.x.count(6), 3);
        lab.row(Frames.text("/a bc"));
        Check.same("what is no target may be page", lab.x.page(2), 4);
    }

    private static void insteadOfOne() {
        Lab lab = new Lab();
        lab.page("/a", "first");
        lab.page("/b", "second");
        Check.same("instead of one", lab.page("/a", "2nd"), 2);
        Check.same("at its place", lab.x.damage(0, 0, 0), '2');
        Check.fails("of its length", IndexOutOfBoundsException.class, () -> lab.x.damage(0, 3, 0));
        Peer p = Peer.open(lab, 5);
        int k = lab.sent();
        p.send("GET /a HTTP/1.1\r\n\r\n");
        Check.same("the page", lab.data(k), "HTTP/1.1 200 OK\r\nContent-Length: 3\r\n\r\n2nd");
    }

    private static void thirtyTwo() {
        Lab lab = new Lab();
        for (int i = 1; i <= 32; i++) {
            Check.same("page " + i, lab.page("/" + i, "x"), i);
        }
        lab.row(Frames.text("/33y"));
        Check.fails("a 33rd", IllegalStateException.class, () -> lab.x.page(3));
        Check.same("the row stays", lab.x.cut(4), 4);
        Check.same("32 pages", lab.x.count(6), 32);
        Check.fails("wrong arguments come first", IllegalArgumentException.class, () -> lab.x.page(0));
        lab.x.cut(0);
        lab.row(Frames.text("/1y"));
        Check.fails("if there are 32, as the words say", IllegalStateException.class, () -> lab.x.page(2));
        Check.same("the page is as it was", lab.x.damage(0, 0, 0), 'x');
        Check.same("the last page", lab.x.damage(31, 0, 0), 'x');
        Check.fails("none behind it", IndexOutOfBoundsException.class, () -> lab.x.damage(32, 0, 0));
    }

    private static void damage() {
        Lab lab = new Lab();
        lab.page("/a", new byte[] {1, -128, 0});
        Check.same("bits turn", lab.x.damage(0, 0, 5), 4);
        Check.same("and turn back", lab.x.damage(0, 0, 5), 1);
        Check.same("of 128", lab.x.damage(0, 1, 0), 128);
        Check.same("all bits", lab.x.damage(0, 2, -1), 255);
        Check.same("only eight of them", lab.x.damage(0, 2, 0x7ffffff0), 15);
        int[][] none = {{-1, 0}, {1, 0}, {0, -1}, {0, 3}, {0, Integer.MAX_VALUE}, {0, Integer.MIN_VALUE},
            {Integer.MAX_VALUE, 0}, {Integer.MIN_VALUE, 0}, {32, 0}, {0, 1500}};
        for (int[] at : none) {
            Check.fails("byte " + at[1] + " of " + at[0], IndexOutOfBoundsException.class,
                    () -> lab.x.damage(at[0], at[1], 1));
        }
        Check.same("nothing changed by that", lab.x.damage(0, 0, 0), 1);
    }

    private static String status(Lab lab, int port) {
        Peer p = Peer.open(lab, port);
        int k = lab.sent();
        p.send("GET /a HTTP/1.1\r\n\r\n");
        return lab.data(k).substring(9, 12);
    }

    private static void sums() {
        Lab lab = new Lab();
        lab.page("/a", new byte[] {1, 2, 3, 4, 5});
        Check.same("a sound page", status(lab, 1), "200");
        lab.x.damage(0, 4, 1);
        Check.same("a damaged one", status(lab, 2), "500");
        lab.x.damage(0, 4, 1);
        Check.same("mended", status(lab, 3), "200");
        lab.x.damage(0, 0, 2);
        lab.x.damage(0, 2, 2);
        Check.same("a damage that the sum does not see", status(lab, 4), "200");
        lab.x.damage(0, 1, 64);
        Check.same("one that it sees", status(lab, 5), "500");
        lab.page("/a", new byte[] {9});
        Check.same("a new page has a new sum", status(lab, 6), "200");
    }
}
