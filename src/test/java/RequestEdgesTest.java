/** The boundary cases of HTTP, sentence by sentence: part 3 of the terms. */
public final class RequestEdgesTest {
    private static final String END = "\r\n\r\n";
    private static final String GET = "GET / HTTP/1.1" + END;
    private static final String BAD = answer("400 Bad Request", true, "");
    private static final String TOO_LONG = answer("431 Request Header Fields Too Large", true, "");
    private static final String ROOT = answer("200 OK", false, "root");

    public static void main(String[] args) {
        blankLineWithin512();
        blankLineOverTheEnd();
        shortestRequests();
        bytes512WithoutOne();
        all2048GoneBy431();
        roomForAnAnswer();
        roomFor431();
        roomByAcknowledgements();
        everyByteOfAMethod();
        everyByteOfATarget();
        targetsOfEachLength();
        versions();
        everyByteOfAName();
        everyByteOfAValue();
        linesWithoutTheirEnd();
        methodsBesideGet();
        connectionClose();
        sumsThatAreWrong();
        notAfterItsEnd();
        finAndNothingWaits();
        finAndARequestWaits();
        state2Only();
        Check.end();
    }

    private static String answer(String status, boolean close, String body) {
        return "HTTP/1.1 " + status + "\r\nContent-Length: " + body.length() + "\r\n"
                + (close ? "Connection: close\r\n" : "") + "\r\n" + body;
    }

    private static Lab lab() {
        Lab lab = new Lab();
        lab.page("/", "root");
        return lab;
    }

    /** What is answered to bytes that come at once. */
    private static String ask(String bytes) {
        Lab lab = lab();
        Peer p = Peer.open(lab, 5);
        int k = lab.sent();
        p.send(bytes);
        return lab.data(k);
    }

    private static String ofLength(int length) {
        String start = "GET / HTTP/1.1\r\nA:";
        return start + "v".repeat(length - start.length() - 4) + END;
    }

    /** "if a blank line (13 10 13 10) ends within the first 512 bytes of the INBOX". */
    private static void blankLineWithin512() {
        for (int length = 509; length <= 518; length++) {
            String request = ofLength(length);
            Check.same("of " + length, ask(request), length <= 512 ? ROOT : TOO_LONG);
            Check.same("of " + length + ", with more behind", ask(request + "x".repeat(700)),
                    length <= 512 ? ROOT + TOO_LONG : TOO_LONG);
        }
        Check.same("512 bytes behind a request", ask(GET + ofLength(512)), ROOT + ROOT);
        Check.same("513 bytes behind a request", ask(GET + ofLength(513)), ROOT + TOO_LONG);
    }

    /** A blank line that begins within 512 bytes and ends behind them, byte by byte. */
    private static void blankLineOverTheEnd() {
        for (int length = 511; length <= 516; length++) {
            Lab lab = lab();
            Peer p = Peer.open(lab, 5);
            String request = ofLength(length);
            int k = lab.sent();
            p.send(request.substring(0, 508));
            for (int i = 508; i < length; i++) {
                p.send(request.substring(i, i + 1));
            }
            Check.same("of " + length, lab.data(k), length <= 512 ? ROOT : TOO_LONG);
            Check.same("the INBOX", p.look(7), length <= 512 ? 0 : length - 512);
        }
    }

    private static void shortestRequests() {
        Check.same("nothing but a blank line", ask(END), BAD);
        Check.same("three bytes of it", ask("\r\n\r"), "");
        Check.same("13 10 10 13", ask("x\r\n\n\r"), "");
        Check.same("13 10 13 13 10", ask("x\r\n\r\r\n"), "");
        Check.same("10 13 10 13 10", ask("x\n\r\n\r\n"), BAD);
        Check.same("the shortest good one", ask("A / HTTP/1.1" + END), answer("405 Method Not Allowed", false, ""));
        Check.same("a byte lacks", ask("A / HTTP/1.1\r\n\r"), "");
    }

    /** "else, if 512 bytes are there without one: 431 [...], and it ends". */
    private static void bytes512WithoutOne() {
        for (int length = 510; length <= 514; length++) {
            Lab lab = lab();
            Peer p = Peer.open(lab, 5);
            int k = lab.sent();
            p.send("x".repeat(length));
            Check.same(length + " bytes", lab.data(k), length < 512 ? "" : TOO_LONG);
            Check.same("the INBOX", p.look(7), length < 512 ? length : 0);
            Check.same("the next to be sent", p.look(3), length < 512 ? 100001 : 100001 + 86 + 1);
        }
        Check.same("behind a request, 511", ask(GET + "x".repeat(511)), ROOT);
        Check.same("behind a request, 512", ask(GET + "x".repeat(512)), ROOT + TOO_LONG);
    }

    /** "(all of the INBOX gone)": also what is a request, of a full INBOX too. */
    private static void all2048GoneBy431() {
        Lab lab = lab();
        Peer p = Peer.open(lab, 5);
        p.say(Frames.ACK, p.number + 600, p.ours, "y".repeat(1000));
        p.say(Frames.ACK, p.number + 1600, p.ours, "y".repeat(448));
        p.say(Frames.ACK, p.number, p.ours, "x".repeat(582) + GET);
        Check.same("NEXT", p.look(1), p.number + 2048);
        Check.same("nothing is left", p.look(7), 0);
        Check.same("one answer", p.look(8), 86);
        Check.same("which ends it", lab.lastSegment(), "FPA 100001 3049 2048 86");
    }

    /** A server in whose OUTBOX are n bytes, of a peer that has a window of 1. */
    private static Peer holding(int n) {
        Lab lab = new Lab();
        lab.page("/", "root");
        lab.page("/a", Frames.fill(1500, 'a'));
        lab.page("/b", Frames.fill(n - 2 * 1541 - 40, 'b'));
        Peer p = Peer.open(lab, 5, 536, 1);
        p.send("GET /a HTTP/1.1" + END + "GET /a HTTP/1.1" + END + "GET /b HTTP/1.1" + END);
        Check.same("the OUTBOX", p.look(8), n);
        return p;
    }

    /** "if its answer fits into the OUTBOX (what is there and not acknowledged, and it, at most 4096 bytes)". */
    private static void roomForAnAnswer() {
        String[] requests = {GET, "A / HTTP/1.1" + END, "bad" + END, "GET /none HTTP/1.0" + END};
        int[] lengths = {42, 54, 66, answer("404 Not Found", true, "").length()};
        for (int i = 0; i < requests.length; i++) {
            for (int over = -1; over <= 1; over++) {
                Peer p = holding(4096 - lengths[i] + over);
                p.send(requests[i]);
                int before = 4096 - lengths[i] + over;
                Check.same("the OUTBOX, over by " + over, p.look(8), over > 0 ? before : 4096 + over);
                Check.same("the INBOX, over by " + over, p.look(7), over > 0 ? requests[i].length() : 0);
            }
        }
        Peer p = holding(4096);
        p.send(GET);
        Check.same("a full OUTBOX", p.look(7), GET.length());
        Check.same("what waits is not done twice", p.send("x"), 1);
        Check.same("the OUTBOX", p.look(8), 4096);
    }

    /** "431, if that fits". */
    private static void roomFor431() {
        for (int over = -1; over <= 1; over++) {
            Peer p = holding(4096 - 86 + over);
            p.send("x".repeat(700));
            Check.same("the OUTBOX, over by " + over, p.look(8), over > 0 ? 4096 - 86 + over : 4096 + over);
            Check.same("the INBOX, over by " + over, p.look(7), over > 0 ? 700 : 0);
        }
        Peer p = holding(4096 - 85);
        p.send("x".repeat(509));
        Check.same("511 bytes are none", p.look(7), 509);
        p.send("\r\n\r\n");
        Check.same("nor is there a blank line within 512", p.look(7), 513);
        p.acknowledge(1);
        Check.same("room by one acknowledged", p.look(7), 0);
        Check.same("the OUTBOX is full", p.look(8), 4096);
    }

    /** What is acknowledged makes room, what is only sent does not. */
    private static void roomByAcknowledgements() {
        Peer p = holding(4096 - 42 + 3);
        p.send(GET);
        p.window = 60;
        Check.same("60 are sent", p.acknowledge(0), 1);
        Check.same("it waits", p.look(7), 18);
        p.acknowledge(2);
        Check.same("a byte lacks", p.look(7), 18);
        p.acknowledge(1);
        Check.same("room", p.look(7), 0);
        Check.same("the OUTBOX is full", p.look(8), 4096);
    }

    /** "METHOD of letters A to Z (one at least)". */
    private static void everyByteOfAMethod() {
        String other = answer("405 Method Not Allowed", false, "");
        for (char c = 0; c < 256; c++) {
            boolean letter = c >= 'A' && c <= 'Z';
            Check.same("METHOD " + (int) c, ask(c + " / HTTP/1.1" + END), letter ? other : BAD);
            Check.same("METHOD G" + (int) c, ask("G" + c + " / HTTP/1.1" + END), letter ? other : BAD);
        }
        Check.same("none", ask(" / HTTP/1.1" + END), BAD);
        Check.same("none, nor a blank", ask("/ HTTP/1.1" + END), BAD);
        Check.same("the longest", ask("A".repeat(497) + " / HTTP/1.1" + END), other);
        Check.same("one too long", ask("A".repeat(498) + " / HTTP/1.1" + END), TOO_LONG);
    }

    /** "TARGET / and then bytes 33 to 126". */
    private static void everyByteOfATarget() {
        String none = answer("404 Not Found", false, "");
        for (char c = 0; c < 256; c++) {
            boolean good = c >= 33 && c <= 126;
            Check.same("TARGET / and " + (int) c, ask("GET /" + c + " HTTP/1.1" + END), good ? none : BAD);
            Check.same("TARGET " + (int) c, ask("GET " + c + " HTTP/1.1" + END), c == '/' ? ROOT : BAD);
        }
        Check.same("none", ask("GET  HTTP/1.1" + END), BAD);
        Check.same("none, nor a blank", ask("GET HTTP/1.1" + END), BAD);
    }

    /** A TARGET may be longer than any page's. */
    private static void targetsOfEachLength() {
        Lab lab = lab();
        String longest = "/" + "t".repeat(63);
        lab.page(longest, "long");
        String none = answer("404 Not Found", false, "");
        String[] targets = {longest, longest + "t", longest.substring(1), longest.substring(0, 63), "/" + "t".repeat(64)};
        String[] due = {answer("200 OK", false, "long"), none, BAD, none, none};
        for (int i = 0; i < targets.length; i++) {
            Peer p = Peer.open(lab, 5 + i);
            int k = lab.sent();
            p.send("GET " + targets[i] + " HTTP/1.1" + END);
            Check.same(targets[i], lab.data(k), due[i]);
        }
        String most = "GET /" + "t".repeat(512 - 18) + " HTTP/1.1" + END;
        Check.same("as long as can be", most.length(), 512);
        Check.same("as long as can be", ask(most), none);
    }

    /** "HTTP/1.1 (or HTTP/1.0)": every one of its bytes. */
    private static void versions() {
        String version = "HTTP/1.1";
        for (int i = 0; i < version.length(); i++) {
            for (int d : new int[] {-1, 1, 32, 128}) {
                char c = (char) (version.charAt(i) + d & 255);
                String other = version.substring(0, i) + c + version.substring(i + 1);
                boolean zero = other.equals("HTTP/1.0");
                Check.same(other, ask("GET / " + other + END), zero ? answer("200 OK", true, "root") : BAD);
            }
        }
        for (String other : new String[] {"", "HTTP/1.", "HTTP/1.1 ", "HTTP/1.11", "HTTP/1.1\r", "HTTP/1.1\n", " HTTP/1.1"}) {
            Check.same(other, ask("GET / " + other + END), BAD);
        }
    }

    /** "NAME of letters, digits and - (one at least)". */
    private static void everyByteOfAName() {
        for (char c = 0; c < 256; c++) {
            boolean good = c >= 'A' && c <= 'Z' || c >= 'a' && c <= 'z' || c >= '0' && c <= '9' || c == '-';
            Check.same("NAME " + (int) c, ask("GET / HTTP/1.1\r\n" + c + ":v" + END), good ? ROOT : BAD);
            boolean colon = c == ':';
            Check.same("NAME N" + (int) c, ask("GET / HTTP/1.1\r\nN" + c + ":v" + END), good || colon ? ROOT : BAD);
        }
        Check.same("none", ask("GET / HTTP/1.1\r\n:v" + END), BAD);
        Check.same("no colon", ask("GET / HTTP/1.1\r\nN" + END), BAD);
    }

    /** "VALUE of bytes 32 to 126 (perhaps none)". */
    private static void everyByteOfAValue() {
        for (char c = 0; c < 256; c++) {
            boolean good = c >= 32 && c <= 126;
            Check.same("VALUE " + (int) c, ask("GET / HTTP/1.1\r\nN:" + c + END), good ? ROOT : BAD);
            Check.same("VALUE v" + (int) c, ask("GET / HTTP/1.1\r\nN:v" + c + "v\r\nM:" + END), good ? ROOT : BAD);
        }
        Check.same("none", ask("GET / HTTP/1.1\r\nN:" + END), ROOT);
        Check.same("none, and another", ask("GET / HTTP/1.1\r\nN:\r\nM:" + END), ROOT);
        Check.same("none of them", ask("GET / HTTP/1.1" + END), ROOT);
    }

    /** "Each line ends with 13 10." */
    private static void linesWithoutTheirEnd() {
        for (String end : new String[] {"\n", "\r", "\n\r", "\r\r\n", "\r\n ", " \r\n "}) {
            Check.same("behind the first line", ask("GET / HTTP/1.1" + end + "A: b" + END), BAD);
            Check.same("behind another", ask("GET / HTTP/1.1\r\nA: b" + end + "C: d" + END), BAD);
            Check.same("at the end", ask("GET / HTTP/1.1\r\nA: b" + end + END), BAD);
        }
    }

    /** "Another METHOD than GET: 405": whatever its TARGET is, but not if it is no request. */
    private static void methodsBesideGet() {
        for (String method : new String[] {"G", "GE", "GETT", "AGET", "TEG", "HET", "FET", "GDT", "GFT", "GES", "GEU"}) {
            Check.same(method, ask(method + " / HTTP/1.1" + END), answer("405 Method Not Allowed", false, ""));
            Check.same(method, ask(method + " /none HTTP/1.0" + END), answer("405 Method Not Allowed", true, ""));
            Check.same(method, ask(method + " / HTTP/1.1\r\nbad" + END), BAD);
        }
    }

    /** "a NAME connection (letters of both sizes) with VALUE close (so, blanks around it)". */
    private static void connectionClose() {
        String closes = answer("200 OK", true, "root");
        String name = "connection";
        for (int i = 0; i < name.length(); i++) {
            String big = name.substring(0, i) + (char) (name.charAt(i) - 32) + name.substring(i + 1);
            Check.same(big, ask("GET / HTTP/1.1\r\n" + big + ":close" + END), closes);
            String other = name.substring(0, i) + "-" + name.substring(i + 1);
            Check.same(other, ask("GET / HTTP/1.1\r\n" + other + ":close" + END), ROOT);
        }
        String value = "close";
        for (int i = 0; i < value.length(); i++) {
            String big = value.substring(0, i) + (char) (value.charAt(i) - 32) + value.substring(i + 1);
            Check.same(big, ask("GET / HTTP/1.1\r\nconnection:" + big + END), closes);
            String other = value.substring(0, i) + (char) (value.charAt(i) ^ 64) + value.substring(i + 1);
            Check.same(other, ask("GET / HTTP/1.1\r\nconnection:" + other + END), other.charAt(i) < 32 ? BAD : ROOT);
        }
        for (String v : new String[] {" close", "close ", "   close   ", " ".repeat(200) + "close" + " ".repeat(200)}) {
            Check.same(v, ask("GET / HTTP/1.1\r\nconnection:" + v + END), closes);
        }
        for (String v : new String[] {"", " ", "clos", "closed", "cl ose", "close,", "xclose", "close x", "closeclose"}) {
            Check.same(v, ask("GET / HTTP/1.1\r\nconnection:" + v + END), ROOT);
        }
        Check.same("nine letters", ask("GET / HTTP/1.1\r\nonnection:close" + END), ROOT);
        Check.same("eleven letters", ask("GET / HTTP/1.1\r\nconnections:close" + END), ROOT);
        Check.same("first of many", ask("GET / HTTP/1.1\r\nconnection:close\r\nA:\r\nconnection:" + END), closes);
        Check.same("last of many", ask("GET / HTTP/1.1\r\nA:\r\nconnection:x\r\nconnection:close" + END), closes);
    }

    /** "GET of a page: 200, of one whose sum is wrong 500, of none 404": at both ends of pages of each length. */
    private static void sumsThatAreWrong() {
        for (int length : new int[] {0, 1, 2, 3, 1499, 1500}) {
            Lab lab = new Lab();
            lab.page("/", Frames.fill(length, 'p'));
            int[] places = {0, length - 1};
            int port = 5;
            for (int place : places) {
                if (length > 0) {
                    lab.x.damage(0, place, 128);
                    Check.same("damaged", first(lab, port++), "HTTP/1.1 500 Internal Server Error");
                    lab.x.damage(0, place, 128);
                }
                Check.same("mended", first(lab, port++), "HTTP/1.1 200 OK");
            }
        }
    }

    private static String first(Lab lab, int port) {
        Peer p = Peer.open(lab, port);
        int k = lab.sent();
        p.send(GET);
        return lab.data(k).split("\r\n")[0];
    }

    /** "while it is not to end". */
    private static void notAfterItsEnd() {
        String[] last = {"GET / HTTP/1.0" + END, "GET / HTTP/1.1\r\nconnection:close" + END, "bad" + END};
        String[] due = {answer("200 OK", true, "root"), answer("200 OK", true, "root"), BAD};
        for (int i = 0; i < last.length; i++) {
            Check.same("before it", ask(GET + last[i]), ROOT + due[i]);
            Check.same("behind it", ask(last[i] + GET), due[i]);
            Lab lab = lab();
            Peer p = Peer.open(lab, 5);
            p.send(last[i] + GET);
            Check.same("what is behind it stays", p.look(7), GET.length());
            p.send("x".repeat(600));
            Check.same("and all that comes", p.look(7), GET.length() + 600);
            Check.same("without an answer", p.look(8), due[i].length());
        }
    }

    /** "If the other's FIN is reached, and nothing (no request, no 431) waits for room: it ends." */
    private static void finAndNothingWaits() {
        for (int length : new int[] {0, 1, 511}) {
            Lab lab = lab();
            Peer p = Peer.open(lab, 5);
            p.say(Frames.ACK | Frames.FIN, p.number, p.ours, "x".repeat(length));
            Check.same(length + " bytes", lab.lastSegment(), "FA 100001 " + (1002 + length) + " " + (2048 - length));
        }
        Lab lab = lab();
        Peer p = Peer.open(lab, 5);
        p.say(Frames.ACK | Frames.FIN, p.number, p.ours, GET);
        Check.same("a request with it", lab.lastSegment(), "FPA 100001 1020 2048 42");
        Check.same("is answered as if it did not end", lab.data(lab.sent() - 1), ROOT);
        Peer q = Peer.open(lab, 6);
        q.say(Frames.ACK | Frames.FIN, q.number + 1, q.ours, "x");
        Check.same("told, not reached", lab.lastSegment(), "A 200001 1001 2048");
    }

    private static void finAndARequestWaits() {
        Peer p = holding(4096 - 41);
        p.send(GET);
        p.fin();
        Check.same("a request waits", p.lab.lastSegment(), "A 100002 1077 2030");
        p.window = 4000;
        p.acknowledge(1);
        Check.same("it is answered", p.look(7), 0);
        Peer q = holding(4096 - 85);
        q.send("x".repeat(512));
        q.fin();
        Check.same("a 431 waits", q.lab.lastSegment(), "A 100002 1571 1536");
        q.acknowledge(1);
        Check.same("it is answered", q.look(7), 0);
        Peer r = holding(4096);
        r.send("x".repeat(511));
        r.fin();
        r.window = 65535;
        for (int i = 0; i < 12; i++) {
            r.acknowledge(r.look(3) - r.ours);
            if (!r.isThere()) {
                break;
            }
        }
        Check.yes("511 bytes wait for nothing", !r.isThere());
    }

    /** "HTTP, in state 2". */
    private static void state2Only() {
        Lab lab = lab();
        Peer p = Peer.leaving(lab, 5, 1000, 2048);
        p.send(GET);
        Check.same("not in state 3", p.look(7), GET.length());
        Check.same("no answer", p.look(8), 0);
        Peer q = new Peer(lab, 0x0a000102, 6, 1);
        q.window = 4000;
        q.say(Frames.SYN, 1, 0, "");
        q.say(Frames.ACK, 2, 7, GET);
        Check.same("not in state 1", q.look(8), 0);
        q.say(Frames.ACK, 2, 200001, GET);
        Check.same("with what makes it state 2", q.look(8), ROOT.length());
    }
}
