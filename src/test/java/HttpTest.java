/** Promise 4, part 3 of the terms: requests and answers. */
public final class HttpTest {
    private static final String END = "\r\n\r\n";

    public static void main(String[] args) {
        answers();
        badFirstLines();
        fields();
        badFields();
        whatEnds();
        oneBehindTheOther();
        tooLong();
        waitsForRoom();
        tooLongWaitsForRoom();
        finWhileWaiting();
        finWithHalfARequest();
        lengths();
        Check.end();
    }

    /** What a fresh server with two pages answers to bytes that come in pieces of 1000. */
    private static String ask(String request) {
        Lab lab = new Lab();
        lab.page("/", "root");
        lab.page("/empty", "");
        lab.page("/hurt", "hurt");
        lab.x.damage(2, 0, 1);
        Peer p = Peer.open(lab, 5);
        int k = lab.sent();
        for (int i = 0; i < request.length(); i += 1000) {
            p.send(request.substring(i, Math.min(request.length(), i + 1000)));
        }
        return lab.data(k);
    }

    private static String answer(String status, boolean close, String body) {
        return "HTTP/1.1 " + status + "\r\nContent-Length: " + body.length() + "\r\n"
                + (close ? "Connection: close\r\n" : "") + "\r\n" + body;
    }

    private static void due(String request, String status, boolean close, String body) {
        Check.same(request, ask(request), answer(status, close, body));
    }

    private static void answers() {
        due("GET / HTTP/1.1" + END, "200 OK", false, "root");
        due("GET / HTTP/1.0" + END, "200 OK", true, "root");
        due("GET /empty HTTP/1.1" + END, "200 OK", false, "");
        due("GET /none HTTP/1.1" + END, "404 Not Found", false, "");
        due("GET /none HTTP/1.0" + END, "404 Not Found", true, "");
        due("GET /" + "a".repeat(400) + " HTTP/1.1" + END, "404 Not Found", false, "");
        due("GET /Empty HTTP/1.1" + END, "404 Not Found", false, "");
        due("GET /hurt HTTP/1.1" + END, "500 Internal Server Error", false, "");
        due("POST / HTTP/1.1" + END, "405 Method Not Allowed", false, "");
        due("GETS /hurt HTTP/1.1" + END, "405 Method Not Allowed", false, "");
        due("GE / HTTP/1.0" + END, "405 Method Not Allowed", true, "");
        due("A /none HTTP/1.1" + END, "405 Method Not Allowed", false, "");
        due("ZA / HTTP/1.1" + END, "405 Method Not Allowed", false, "");
        due("SET / HTTP/1.1" + END, "405 Method Not Allowed", false, "");
        due("GEM / HTTP/1.1" + END, "405 Method Not Allowed", false, "");
    }

    private static void badFirstLines() {
        String[] lines = {"", "GET", "GET ", "GET /", "GET / ", "GET / HTTP/1.2", "GET / HTTP/1.", "GET / HTTP/1.10",
            "GET / http/1.1", "get / HTTP/1.1", "GeT / HTTP/1.1", " GET / HTTP/1.1", "GET  / HTTP/1.1",
            "GET /  HTTP/1.1", "GET / HTTP/1.1 ", "GET x HTTP/1.1", "GET  HTTP/1.1", " / HTTP/1.1", "G3T / HTTP/1.1",
            "GET /\u007f HTTP/1.1", "GET /\u0080 HTTP/1.1", "GET /a b HTTP/1.1", "GET /\t HTTP/1.1", "GET\t/ HTTP/1.1",
            "GET / HTTP/1.1\r", "GET / HTTP/1.1\n", "GET / HTTP/2.1", "GET / HTTPS/1.1", "\r\nGET / HTTP/1.1",
            "GET / HTTP/1.1\nA: b", "GET /\u0000 HTTP/1.1", "[ / HTTP/1.1", "@ / HTTP/1.1"};
        for (String line : lines) {
            due(line + END, "400 Bad Request", true, "");
        }
        due("GET /!~ HTTP/1.1" + END, "404 Not Found", false, "");
    }

    private static void fields() {
        String[] fields = {"A:", "A:b", "A: b", "a-9:x", "azAZ09:x", "-: ", "9:~ !", "A::", "A:b:c", "Host: 10.0.0.1\r\nAccept: */*"};
        for (String field : fields) {
            due("GET / HTTP/1.1\r\n" + field + END, "200 OK", false, "root");
        }
    }

    private static void badFields() {
        String[] fields = {":", ": x", "A", "A b: c", "A :b", " A: b", "A_b: c", "A\u00e4: b", "A: \u007f", "A: \t",
            "A: \u0080", "A: b\r", "A: b\nC: d", "A: b\r\n c", "A: b\rC: d", "@: b", "[: b", "`: b", "{: b", "/: b"};
        for (String field : fields) {
            due("GET / HTTP/1.1\r\n" + field + END, "400 Bad Request", true, "");
            due("GET / HTTP/1.1\r\nX: y\r\n" + field + "\r\nZ: z" + END, "400 Bad Request", true, "");
        }
    }

    private static void whatEnds() {
        String[] ends = {"Connection: close", "connection:close", "CONNECTION:  CLOSE  ", "cOnNeCtIoN: ClOsE ",
            "A: b\r\nConnection: close\r\nC: d", "Connection: keep-alive\r\nConnection: close",
            "Connection: close\r\nConnection: keep-alive"};
        for (String field : ends) {
            due("GET / HTTP/1.1\r\n" + field + END, "200 OK", true, "root");
            due("PUT / HTTP/1.1\r\n" + field + END, "405 Method Not Allowed", true, "");
        }
        String[] stays = {"Connection: keep-alive", "Connection: close, x", "Connection: closed", "Connection: clos",
            "Connections: close", "Connectio: close", "X-Connection: close", "Bonnection: close", "Connection: glose", "Connection: clos\u0025", "Connection: c lose", "Connection:",
            "Connection: :close", "A: Connection: close"};
        for (String field : stays) {
            due("GET / HTTP/1.1\r\n" + field + END, "200 OK", false, "root");
        }
        String last = "GET / HTTP/1.0" + END;
        Check.same("nothing behind the last", ask(last + last), answer("200 OK", true, "root"));
        Check.same("nothing behind a bad one", ask("x" + END + last), answer("400 Bad Request", true, ""));
    }

    private static void oneBehindTheOther() {
        String all = "GET / HTTP/1.1" + END + "PUT / HTTP/1.1" + END + "GET /hurt HTTP/1.1" + END + "GET / HTTP/1.0" + END;
        String due = answer("200 OK", false, "root") + answer("405 Method Not Allowed", false, "")
                + answer("500 Internal Server Error", false, "") + answer("200 OK", true, "root");
        Check.same("at once", ask(all), due);
        Lab lab = new Lab();
        lab.page("/", "root");
        lab.page("/hurt", "hurt");
        lab.x.damage(1, 0, 1);
        Peer p = Peer.open(lab, 5);
        StringBuilder got = new StringBuilder();
        for (int i = 0; i < all.length(); i++) {
            int before = p.look(3);
            int k = lab.sent();
            p.send(all.substring(i, i + 1));
            p.ours += p.look(3) - before;
            got.append(lab.data(k));
        }
        Check.same("byte by byte", got.toString(), due);
    }

    private static void tooLong() {
        String start = "GET / HTTP/1.1\r\nA: ";
        String fits = start + "a".repeat(512 - start.length() - 4) + END;
        Check.same("512 bytes", fits.length(), 512);
        due(fits, "200 OK", false, "root");
        String long513 = start + "a".repeat(513 - start.length() - 4) + END;
        due(long513, "431 Request Header Fields Too Large", true, "");
        Check.same("511 bytes wait", ask("x".repeat(511)), "");
        due("x".repeat(512), "431 Request Header Fields Too Large", true, "");
        due("x".repeat(1900), "431 Request Header Fields Too Large", true, "");
        Lab lab = new Lab();
        Peer p = Peer.open(lab, 5);
        p.send("x".repeat(511));
        Check.same("511 bytes wait", p.look(7), 511);
        p.send("yz");
        Check.same("all of it is gone", p.look(7), 0);
        Check.same("one answer", p.look(8), 86);
        p.send("GET / HTTP/1.1" + END);
        Check.same("what comes then stays", p.look(7), 18);
    }

    private static void waitsForRoom() {
        Lab lab = new Lab();
        lab.page("/", Frames.fill(1327, 'p'));
        lab.page("/x", Frames.fill(1328, 'p'));
        Peer p = Peer.open(lab, 5, 536, 0);
        p.send("GET /x HTTP/1.1" + END + "GET /x HTTP/1.1" + END);
        Check.same("two answers of 1369", p.look(8), 2738);
        p.send("GET /x HTTP/1.1" + END);
        Check.same("the third does not fit", p.look(8), 2738);
        Check.same("and waits", p.look(7), 19);
        p.window = 536;
        p.acknowledge(0);
        p.window = 0;
        p.acknowledge(10);
        Check.same("10 acknowledged: not yet", p.look(8), 2728);
        Check.same("still waits", p.look(7), 19);
        p.acknowledge(1);
        Check.same("11 acknowledged: room", p.look(8), 4096);
        Check.same("nothing waits", p.look(7), 0);
        p.send("GET / HTTP/1.1" + END + "A / HTTP/1.1" + END);
        Check.same("a short one waits behind a long one", p.look(7), 34);
        Check.same("the OUTBOX is full", p.look(8), 4096);
    }

    private static void tooLongWaitsForRoom() {
        Lab lab = new Lab();
        lab.page("/", Frames.fill(1327, 'p'));
        Peer p = Peer.open(lab, 5, 536, 1);
        p.send(("GET / HTTP/1.1" + END).repeat(2) + "A / HTTP/1.1" + END);
        p.send(("GET / HTTP/1.1" + END).repeat(1));
        int full = 2 * 1368 + 54;
        Check.same("the OUTBOX", p.look(8), full);
        p.send("x".repeat(600));
        Check.same("waits behind a request", p.look(7), 618);
        Lab other = new Lab();
        other.page("/", Frames.fill(1500, 'p'));
        other.page("/b", Frames.fill(869, 'p'));
        Peer q = Peer.open(other, 5, 536, 1);
        q.send("GET / HTTP/1.1" + END + "GET / HTTP/1.1" + END + "GET /b HTTP/1.1" + END);
        Check.same("the OUTBOX", q.look(8), 2 * 1541 + 909);
        q.send("GET /" + "c".repeat(600));
        Check.same("room for 105 bytes: 431", q.look(8), 2 * 1541 + 909 + 86);
        Lab third = new Lab();
        third.page("/", Frames.fill(1500, 'p'));
        third.page("/b", Frames.fill(900, 'p'));
        Peer r = Peer.open(third, 5, 536, 1);
        r.send("GET / HTTP/1.1" + END + "GET / HTTP/1.1" + END + "GET /b HTTP/1.1" + END);
        r.send("c".repeat(600));
        Check.same("room for 74 bytes: it waits", r.look(8), 2 * 1541 + 940);
        Check.same("it waits", r.look(7), 600);
        r.fin();
        Check.same("and does not end by the FIN", r.look(3), 100002);
        r.window = 536;
        r.acknowledge(1);
        Check.same("not yet", r.look(7), 600);
        r.acknowledge(536);
        Check.same("then", r.look(7), 0);
        Check.same("its 86 bytes", r.look(8), 2 * 1541 + 940 - 537 + 86);
    }

    private static void finWhileWaiting() {
        Lab lab = new Lab();
        lab.page("/", Frames.fill(1500, 'p'));
        Peer p = Peer.open(lab, 5);
        int k = lab.sent();
        p.say(Frames.ACK | Frames.FIN, p.number, p.ours, ("GET / HTTP/1.1" + END).repeat(4));
        Check.same("two wait", p.look(7), 36);
        p.number += 73;
        for (int i = 0; i < 12; i++) {
            p.acknowledge(p.look(3) - p.ours);
            if (!p.isThere()) {
                break;
            }
        }
        Check.same("all are answered", lab.data(k), answer("200 OK", false, "p".repeat(1500)).repeat(4));
        Check.yes("FIN at last", lab.lastSegment().startsWith("FPA"));
        Check.yes("it is gone", !p.isThere());
    }

    private static void lengths() {
        int[] lengths = {1, 9, 10, 11, 99, 100, 101, 999, 1000, 1001, 1499, 1500};
        for (int length : lengths) {
            Lab lab = new Lab();
            lab.page("/", Frames.fill(length, 'p'));
            Peer p = Peer.open(lab, 5);
            int k = lab.sent();
            p.send("GET / HTTP/1.1" + END);
            p.acknowledge(p.look(3) - p.ours);
            Check.same("a page of " + length, lab.data(k), answer("200 OK", false, "p".repeat(length)));
        }
    }

    private static void finWithHalfARequest() {
        Lab lab = new Lab();
        Peer p = Peer.open(lab, 5);
        p.send("GET / HT");
        Check.same("FIN", p.fin(), 1);
        Check.same("it ends without an answer", lab.lastSegment(), "FA 100001 1010 2040");
    }
}
