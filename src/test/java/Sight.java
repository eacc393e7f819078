/** All that can be seen of a server, as a text, so that two servers can be compared. */
final class Sight {
    private Sight() {
    }

    /** What is seen without a change; connections are looked for at the tests' address. */
    static String of(Lab lab) {
        StringBuilder b = new StringBuilder();
        for (int what = 0; what < 8; what++) {
            b.append(lab.x.count(what)).append(' ');
        }
        for (int port = 0; port < 20; port++) {
            connection(b, lab, port);
        }
        for (int k = Math.max(0, lab.sent() - 64); k < lab.sent(); k++) {
            b.append("frame ").append(Frames.text(lab.frame(k)));
        }
        for (int k = 0; k < lab.x.count(6); k++) {
            b.append("page ").append(k).append(' ').append(Frames.text(page(lab, k)));
        }
        return b.toString();
    }

    private static void connection(StringBuilder b, Lab lab, int port) {
        Peer p = new Peer(lab, 0x0a000102, port, 0);
        if (p.isThere()) {
            b.append("port ").append(port).append(": ");
            for (int what = 0; what < 12; what++) {
                b.append(p.look(what)).append(' ');
            }
        }
    }

    static byte[] page(Lab lab, int k) {
        byte[] all = new byte[1500];
        int length = 0;
        try {
            while (length < 1500) {
                all[length] = (byte) lab.x.damage(k, length, 0);
                length++;
            }
        } catch (IndexOutOfBoundsException e) {
            return Frames.part(all, 0, length);
        }
        return all;
    }

    /** ROW's length, by the longest cut that is allowed. */
    static int rowLength(Lab lab) {
        for (int n = 2000; n > 0; n--) {
            try {
                return lab.x.cut(n);
            } catch (IllegalArgumentException e) {
                continue;
            }
        }
        return 0;
    }

    /** ROW too, which is used up by that: it becomes a page, or comes as a frame. */
    static String withRow(Lab lab) {
        String before = of(lab) + "row of " + rowLength(lab);
        if (rowLength(lab) > 1501) {
            lab.x.cut(1501);
        }
        try {
            lab.x.page(1);
        } catch (IllegalArgumentException | IllegalStateException e) {
            lab.x.arrive();
        }
        return before + of(lab);
    }
}
