/** The boundary cases of the store, sentence by sentence: part 4 of the terms, promises 5 and 6. */
public final class StoreEdgesTest {
    public static void main(String[] args) {
        targetsOf1To64();
        everyByteOfATarget();
        firstByteIsASlash();
        rowShorterThanTheTarget();
        pagesUpTo1500();
        longestOfAll();
        insteadOfOneThatItHad();
        targetsThatBeginTheSame();
        upTo32();
        thirtyTwoIsNotTooMany();
        rowIsEmptyThen();
        everyBitOfV();
        bytesOfAPage();
        orderOfTheirTargets();
        damageThatTheSumDoesNotSee();
        sumOfAPageThatCameInstead();
        Check.end();
    }

    private static void refuses(String what, byte[] row, int n) {
        Lab lab = new Lab();
        lab.row(row);
        Check.fails(what, IllegalArgumentException.class, () -> lab.x.page(n));
        Check.same(what + ": no page", lab.x.count(6), 0);
        Check.same(what + ": ROW stays", Sight.rowLength(lab), row.length);
    }

    /** "IllegalArgumentException if n is not 1 to 64". */
    private static void targetsOf1To64() {
        byte[] row = Frames.fill(100, '/');
        for (int n = 1; n <= 64; n++) {
            Lab lab = new Lab();
            lab.row(row);
            Check.same("page(" + n + ")", lab.x.page(n), 1);
            Check.same("its bytes", Sight.page(lab, 0).length, 100 - n);
        }
        for (int n : new int[] {0, -1, -64, 65, 66, 100, Integer.MIN_VALUE, Integer.MAX_VALUE}) {
            refuses("page(" + n + ")", row, n);
        }
    }

    /** "or these bytes no TARGET": "bytes from 33 to 126". */
    private static void everyByteOfATarget() {
        for (int c = 0; c < 256; c++) {
            for (int place = 1; place <= 63; place += 31) {
                byte[] row = Frames.fill(64, '/');
                row[place] = (byte) c;
                if (c >= 33 && c <= 126) {
                    Lab lab = new Lab();
                    lab.row(row);
                    Check.same(c + " at " + place, lab.x.page(64), 1);
                } else {
                    refuses(c + " at " + place, row, 64);
                }
            }
        }
        Lab lab = new Lab();
        lab.row(new byte[] {'/', 'a', 0, ' ', 127});
        Check.same("what is behind it may be anything", lab.x.page(2), 1);
    }

    /** "the first is /". */
    private static void firstByteIsASlash() {
        for (int c = 0; c < 256; c++) {
            byte[] row = {(byte) c, '/'};
            if (c == '/') {
                Lab lab = new Lab();
                lab.row(row);
                Check.same("/", lab.x.page(1), 1);
            } else {
                refuses("first " + c, row, 1);
                refuses("first " + c, row, 2);
            }
        }
    }

    /** "or ROW shorter". */
    private static void rowShorterThanTheTarget() {
        refuses("an empty row", new byte[0], 1);
        for (int length = 1; length < 64; length++) {
            refuses("one more than " + length, Frames.fill(length, '/'), length + 1);
            Lab lab = new Lab();
            lab.row(Frames.fill(length, '/'));
            Check.same("all of " + length, lab.x.page(length), 1);
            Check.same("an empty page", Sight.page(lab, 0).length, 0);
        }
        Lab lab = new Lab();
        lab.row(Frames.fill(40, '/'));
        lab.x.cut(10);
        Check.fails("what was cut away is no part of it", IllegalArgumentException.class, () -> lab.x.page(11));
    }

    /** "or the PAGE longer than 1500". */
    private static void pagesUpTo1500() {
        for (int n : new int[] {1, 2, 63, 64}) {
            for (int length : new int[] {0, 1, 1499, 1500}) {
                Lab lab = new Lab();
                lab.row(Frames.fill(n + length, '/'));
                Check.same(length + " behind " + n, lab.x.page(n), 1);
                Check.same("its bytes", Sight.page(lab, 0).length, length);
            }
            refuses("1501 behind " + n, Frames.fill(n + 1501, '/'), n);
        }
        refuses("1999 behind 1", Frames.fill(2000, '/'), 1);
        refuses("1936 behind 64", Frames.fill(2000, '/'), 64);
    }

    private static void longestOfAll() {
        Lab lab = new Lab();
        byte[] content = new byte[1500];
        for (int i = 0; i < 1500; i++) {
            content[i] = (byte) (i * 7);
        }
        String target = "/" + "~".repeat(63);
        lab.page(target, content);
        Check.same("all its bytes", Frames.text(Sight.page(lab, 0)), Frames.text(content));
        Peer p = Peer.open(lab, 5, 536, 65535);
        int k = lab.sent();
        p.send("GET " + target + " HTTP/1.1\r\n\r\n");
        p.acknowledge(1072);
        Check.same("the answer", lab.data(k), "HTTP/1.1 200 OK\r\nContent-Length: 1500\r\n\r\n" + Frames.text(content));
    }

    /** "(instead of one that it had)": longer, shorter, empty; it keeps its place. */
    private static void insteadOfOneThatItHad() {
        Lab lab = new Lab();
        lab.page("/a", "aaa");
        lab.page("/b", "bbb");
        String[] contents = {"", "1", "333", "55555", "", "x"};
        for (String content : contents) {
            Check.same("two pages", lab.page("/a", content), 2);
            Check.same("its bytes", Frames.text(Sight.page(lab, 0)), content);
            Check.same("the other's", Frames.text(Sight.page(lab, 1)), "bbb");
        }
        Check.same("a third", lab.page("/c", ""), 3);
    }

    private static void targetsThatBeginTheSame() {
        Lab lab = new Lab();
        String[] targets = {"/", "//", "/a", "/ab", "/aB", "/ab/", "/A"};
        for (int i = 0; i < targets.length; i++) {
            Check.same(targets[i], lab.page(targets[i], "page " + i), i + 1);
        }
        for (int i = 0; i < targets.length; i++) {
            Peer p = Peer.open(lab, 5 + i);
            int k = lab.sent();
            p.send("GET " + targets[i] + " HTTP/1.1\r\n\r\n");
            Check.same(targets[i], lab.data(k), "HTTP/1.1 200 OK\r\nContent-Length: 6\r\n\r\npage " + i);
        }
    }

    private static Lab with(int pages) {
        Lab lab = new Lab();
        for (int i = 0; i < pages; i++) {
            Check.same("pages", lab.page("/" + i, "page " + i), i + 1);
        }
        return lab;
    }

    /** "up to 32 PAGES", "IllegalStateException if there are 32". */
    private static void upTo32() {
        Lab lab = with(31);
        Check.same("instead of one of 31", lab.page("/30", "new"), 31);
        Check.same("a 32nd", lab.page("/31", "page 31"), 32);
        lab.row(Frames.text("/32"));
        Check.fails("a 33rd", IllegalStateException.class, () -> lab.x.page(3));
        lab.x.cut(0);
        lab.row(Frames.text("/31new"));
        Check.fails("if there are 32, whatever the TARGET is", IllegalStateException.class, () -> lab.x.page(3));
        Check.same("pages", lab.x.count(6), 32);
        for (int k = 0; k < 32; k++) {
            Check.same("page " + k, Frames.text(Sight.page(lab, k)), k == 30 ? "new" : "page " + k);
        }
    }

    private static void thirtyTwoIsNotTooMany() {
        Lab lab = with(32);
        for (int k : new int[] {0, 15, 31}) {
            Peer p = Peer.open(lab, 6 + k);
            int sent = lab.sent();
            p.send("GET /" + k + " HTTP/1.1\r\n\r\n");
            String body = "page " + k;
            Check.same("page " + k, lab.data(sent), "HTTP/1.1 200 OK\r\nContent-Length: " + body.length() + "\r\n\r\n" + body);
        }
        Peer p = Peer.open(lab, 5);
        int sent = lab.sent();
        p.send("GET /32 HTTP/1.1\r\n\r\n");
        Check.same("none of 32", lab.data(sent), "HTTP/1.1 404 Not Found\r\nContent-Length: 0\r\n\r\n");
    }

    /** "ROW is empty then". */
    private static void rowIsEmptyThen() {
        Lab lab = new Lab();
        for (int length : new int[] {1, 2, 20, 1501}) {
            lab.row(Frames.fill(length, '/'));
            lab.x.page(1);
            Check.same("behind a page of " + (length - 1), Sight.rowLength(lab), 0);
        }
        Check.same("and filled anew", lab.x.feed(1, 2, 3, 4, 5), 20);
    }

    /** "has its bits turned where v's are 1: it then, 0 to 255". */
    private static void everyBitOfV() {
        Lab lab = new Lab();
        lab.page("/", new byte[] {(byte) 0xa5, 0x5a});
        for (int bit = 0; bit < 32; bit++) {
            int due = bit < 8 ? 0xa5 ^ 1 << bit : 0xa5;
            Check.same("bit " + bit, lab.x.damage(0, 0, 1 << bit), due);
            Check.same("and back", lab.x.damage(0, 0, 1 << bit), 0xa5);
        }
        Check.same("no bit", lab.x.damage(0, 0, 0), 0xa5);
        Check.same("all bits", lab.x.damage(0, 0, -1), 0x5a);
        Check.same("all bits of a byte", lab.x.damage(0, 0, 255), 0xa5);
        Check.same("none of a byte", lab.x.damage(0, 0, -256), 0xa5);
        Check.same("the other stays", lab.x.damage(0, 1, 0), 0x5a);
    }

    /** "Byte i of PAGE k [...]. IndexOutOfBoundsException if there is none." */
    private static void bytesOfAPage() {
        for (int length : new int[] {0, 1, 2, 1499, 1500}) {
            Lab lab = new Lab();
            Check.fails("no page", IndexOutOfBoundsException.class, () -> lab.x.damage(0, 0, 1));
            lab.page("/", Frames.fill(length, 7));
            if (length > 0) {
                Check.same("the first of " + length, lab.x.damage(0, 0, 0), 7);
                Check.same("the last of " + length, lab.x.damage(0, length - 1, 0), 7);
            }
            for (int i : new int[] {-1, length, length + 1, Integer.MIN_VALUE, Integer.MAX_VALUE}) {
                Check.fails("byte " + i + " of " + length, IndexOutOfBoundsException.class, () -> lab.x.damage(0, i, 1));
            }
            for (int k : new int[] {-1, 1, 32, Integer.MIN_VALUE, Integer.MAX_VALUE}) {
                Check.fails("page " + k, IndexOutOfBoundsException.class, () -> lab.x.damage(k, 0, 1));
            }
        }
        Lab lab = new Lab();
        lab.page("/", "long");
        lab.page("/", "");
        Check.fails("a byte of the one before", IndexOutOfBoundsException.class, () -> lab.x.damage(0, 0, 1));
    }

    /** "(in the order in which their TARGETS came)": not that of the pages that came instead. */
    private static void orderOfTheirTargets() {
        Lab lab = new Lab();
        lab.page("/c", "1");
        lab.page("/a", "2");
        lab.page("/b", "3");
        lab.page("/a", "4");
        lab.page("/c", "5");
        Check.same("the first TARGET", lab.x.damage(0, 0, 0), '5');
        Check.same("the second", lab.x.damage(1, 0, 0), '4');
        Check.same("the third", lab.x.damage(2, 0, 0), '3');
    }

    private static String status(Lab lab, int port) {
        Peer p = Peer.open(lab, port);
        int k = lab.sent();
        p.send("GET / HTTP/1.1\r\n\r\n");
        return lab.data(k).substring(9, 12);
    }

    /** SUMS: two bytes of the same half turned against one another make the same sum. */
    private static void damageThatTheSumDoesNotSee() {
        Lab lab = new Lab();
        lab.page("/", new byte[] {1, 0, 2, 0, 4});
        lab.x.damage(0, 0, 3);
        Check.same("one up", status(lab, 1), "500");
        lab.x.damage(0, 2, 3);
        Check.same("one up, one down", status(lab, 2), "200");
        lab.x.damage(0, 1, 1);
        lab.x.damage(0, 3, 1);
        Check.same("both up", status(lab, 3), "500");
    }

    private static void sumOfAPageThatCameInstead() {
        Lab lab = new Lab();
        lab.page("/", "first");
        lab.x.damage(0, 0, 1);
        Check.same("damaged", status(lab, 1), "500");
        lab.page("/", "second");
        Check.same("another came", status(lab, 2), "200");
        lab.page("/", "");
        Check.same("an empty one came", status(lab, 3), "200");
    }
}
