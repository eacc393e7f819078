/** Promise 4: what segments of a connection do: windows, order, RST, SYN, FIN. */
public final class ReceivingTest {
    public static void main(String[] args) {
        whatFits();
        shutWindow();
        outOfOrder();
        wrapAround();
        whatIsThereStays();
        windowEnd();
        resets();
        synAndNoAck();
        finOfTheOther();
        finTooEarly();
        finTwice();
        finAtTheWindowsEnd();
        closing();
        closingFirst();
        leavingEnds();
        tooFarAcknowledged();
        oldSegment();
        bytesBeyondTheFin();
        usedAgain();
        roomAgain();
        Check.end();
    }

    private static void whatFits() {
        Lab lab = new Lab();
        Peer p = Peer.open(lab, 5);
        Check.same("empty, before NEXT", p.say(Frames.ACK, 1000, 100001, ""), 1);
        Check.same("an ACK", lab.lastSegment(), "A 100001 1001 2048");
        Check.same("empty, at NEXT", p.say(Frames.ACK, 1001, 100001, ""), 0);
        Check.same("empty, at the last place", p.say(Frames.ACK, 1001 + 2047, 100001, ""), 0);
        Check.same("empty, behind it", p.say(Frames.ACK, 1001 + 2048, 100001, ""), 1);
        Check.same("a byte before NEXT", p.say(Frames.ACK, 1000, 100001, "x"), 1);
        Check.same("nothing came", p.look(7), 0);
        Check.same("two bytes over NEXT", p.say(Frames.ACK, 1000, 100001, "xy"), 1);
        Check.same("one came", p.look(7), 1);
        Check.same("a byte behind the window", p.say(Frames.ACK, 1001 + 2048, 100001, "x"), 1);
        Check.same("NEXT", p.look(1), 1002);
        Check.same("RST that does not fit", p.say(Frames.RST, 1000, 100001, ""), 0);
        Check.same("is nothing", p.look(0), 2);
        String whole = "x".repeat(1400);
        Check.same("more than is there", p.say(Frames.ACK, 1002 - 1400, 100001, whole), 1);
        Check.same("is old", p.look(7), 1);
    }

    private static void shutWindow() {
        Lab lab = new Lab();
        lab.page("/", Frames.fill(1500, 'p'));
        Peer p = Peer.open(lab, 5, 536, 0);
        for (int i = 0; i < 114; i++) {
            p.send("GET / HTTP/1.1\r\n\r\n");
        }
        Check.same("two answers of 1541 fit", p.look(8), 2 * 1541);
        Check.same("the INBOX", p.look(7), 112 * 18);
        Check.same("bytes that fill it", p.send("x".repeat(32)), 1);
        Check.same("a window of 0", lab.lastSegment(), "A 100001 3085 0");
        Check.same("the INBOX is full", p.look(7), 2048);
        Check.same("a byte more", p.say(Frames.ACK, p.number, p.ours, "x"), 1);
        Check.same("is not taken", p.look(7), 2048);
        Check.same("empty at NEXT fits", p.say(Frames.ACK, p.number, p.ours, ""), 0);
        Check.same("empty behind NEXT does not", p.say(Frames.ACK, p.number + 1, p.ours, ""), 1);
        p.window = 4000;
        int k = lab.sent();
        Check.same("an ACK that opens the window", p.say(Frames.ACK, p.number, p.ours, ""), 2);
        Check.same("no more than SPAN", lab.data(k).length(), 1072);
        Check.yes("all acknowledged", p.acknowledge(1072) > 0);
        Check.yes("a window still", p.look(7) <= 2048);
    }

    private static void outOfOrder() {
        Lab lab = new Lab();
        lab.page("/abc", "Y");
        String request = "GET /abc HTTP/1.1\r\n\r\n";
        Peer p = Peer.open(lab, 5);
        for (int i = request.length() - 1; i > 0; i--) {
            Check.same("byte " + i, p.say(Frames.ACK, 1001 + i, 100001, request.substring(i, i + 1)), 1);
            Check.same("an ACK", lab.lastSegment(), "A 100001 1001 2048");
        }
        Check.same("nothing came yet", p.look(7), 0);
        Check.same("byte 0", p.say(Frames.ACK, 1001, 100001, "G"), 1);
        Check.same("NEXT", p.look(1), 1001 + request.length());
        Check.same("the answer", lab.data(lab.sent() - 1), "HTTP/1.1 200 OK\r\nContent-Length: 1\r\n\r\nY");
    }

    private static void wrapAround() {
        Lab lab = new Lab();
        Peer p = new Peer(lab, 0x0a000102, 5, Integer.MAX_VALUE - 2);
        p.say(Frames.SYN, p.number, 0, "");
        p.say(Frames.ACK, p.number + 1, 100001, "ab");
        Check.same("over the sign", p.look(1), Integer.MIN_VALUE);
        p.say(Frames.ACK, Integer.MIN_VALUE + 1, 100001, "d");
        p.say(Frames.ACK, Integer.MIN_VALUE, 100001, "c");
        Check.same("behind the sign", p.look(1), Integer.MIN_VALUE + 2);
        Peer q = new Peer(lab, 0x0a000102, 6, -3);
        q.say(Frames.SYN, q.number, 0, "");
        q.say(Frames.ACK, 0, 200001, "cd");
        q.say(Frames.ACK, -2, 200001, "ab");
        Check.same("over 0", q.look(1), 2);
        Check.same("all came", q.look(7), 4);
    }

    private static void whatIsThereStays() {
        Lab lab = new Lab();
        lab.page("/ab", "1");
        lab.page("/xy", "2");
        Peer p = Peer.open(lab, 5);
        p.say(Frames.ACK, 1001 + 5, 100001, "ab HTTP/1.1\r\n\r\n");
        p.say(Frames.ACK, 1001 + 4, 100001, "/xy");
        p.say(Frames.ACK, 1001, 100001, "GET /xy");
        Check.same("what came first", lab.data(lab.sent() - 1), "HTTP/1.1 200 OK\r\nContent-Length: 1\r\n\r\n1");
    }

    private static void windowEnd() {
        Lab lab = new Lab();
        Peer p = Peer.open(lab, 5);
        p.say(Frames.ACK, 1001 + 2040, 100001, "0123456789");
        for (int i = 0; i < 2040; i += 408) {
            p.say(Frames.ACK, 1001 + i, 100001, "x".repeat(408));
        }
        Check.same("431 took all that was there, once", p.look(1), 1001 + 2048);
        Check.same("what came behind that", p.look(7), 2048 - 816);
        Peer q = Peer.open(lab, 6);
        q.say(Frames.ACK, 1001 + 600, 200001, "b".repeat(1400));
        q.say(Frames.ACK, 1001, 200001, "a".repeat(600));
        Check.same("all of it gone", q.look(7), 0);
        Check.same("all of it taken", q.look(1), 1001 + 2000);
    }

    private static void resets() {
        int[] places = {0, 1, 2047};
        for (int place : places) {
            Lab lab = new Lab();
            Peer p = Peer.open(lab, 5);
            Check.same("RST", p.say(Frames.RST | Frames.SYN, 1001 + place, 0, ""), 0);
            Check.same("it is gone", lab.x.count(2), 0);
            Check.same("but was made", lab.x.count(3), 1);
        }
        Lab lab = new Lab();
        Peer p = Peer.open(lab, 5);
        Check.same("RST behind the window", p.say(Frames.RST, 1001 + 2048, 0, ""), 0);
        Check.same("it is there", lab.x.count(2), 1);
        Peer q = new Peer(lab, 0x0a000102, 6, 1);
        q.say(Frames.SYN, 1, 0, "");
        q.say(Frames.RST, 2, 0, "");
        Check.yes("gone while it opened", !q.isThere());
        Check.same("nothing is sent for it", lab.x.tick(100000), 0);
    }

    private static void synAndNoAck() {
        Lab lab = new Lab();
        Peer p = Peer.open(lab, 5);
        Check.same("SYN in the window", p.say(Frames.SYN | Frames.ACK, 1001, 100001, "abc"), 1);
        Check.same("an ACK", lab.lastSegment(), "A 100001 1001 2048");
        Check.same("without ACK", p.say(Frames.FIN, 1001, 0, "abc"), 0);
        Check.same("nothing came", p.look(1), 1001);
    }

    private static void finOfTheOther() {
        Lab lab = new Lab();
        Peer p = Peer.open(lab, 5);
        Check.same("FIN with data", p.say(Frames.FIN | Frames.ACK, 1001, 100001, "GET"), 1);
        Check.same("FIN of ours", lab.lastSegment(), "FA 100001 1005 2045");
        Check.same("still state 2", p.look(0), 2);
        Check.same("data behind the FIN", p.say(Frames.ACK, 1005, 100001, "abc"), 1);
        Check.same("are not taken", p.look(1), 1005);
        Check.same("ours is acknowledged", p.say(Frames.ACK, 1005, 100002, "more"), 0);
        Check.yes("it is gone", !p.isThere());
    }

    private static void finTooEarly() {
        Lab lab = new Lab();
        Peer p = Peer.open(lab, 5);
        Check.same("FIN out of order", p.say(Frames.FIN | Frames.ACK, 1004, 100001, "d"), 1);
        Check.same("an ACK", lab.lastSegment(), "A 100001 1001 2048");
        p.say(Frames.ACK, 1006, 100001, "behind");
        Check.same("then what lacks", p.say(Frames.ACK, 1001, 100001, "abcdefgh"), 1);
        Check.same("no byte beyond the FIN", p.look(7), 4);
        Check.same("the FIN is reached", p.look(1), 1006);
        Check.same("FIN of ours", lab.lastSegment(), "FA 100001 1006 2044");
    }

    private static void finTwice() {
        Lab lab = new Lab();
        Peer p = Peer.open(lab, 5);
        p.say(Frames.FIN | Frames.ACK, 1010, 100001, "");
        p.say(Frames.FIN | Frames.ACK, 1005, 100001, "");
        p.say(Frames.ACK, 1001, 100001, "abcdefgh");
        Check.same("the first that was told counts", p.look(1), 1009);
        p.say(Frames.ACK, 1009, 100001, "ijkl");
        Check.same("bytes before it", p.look(7), 9);
        Check.same("it is reached", p.look(1), 1011);
    }

    private static void finAtTheWindowsEnd() {
        Lab lab = new Lab();
        Peer p = Peer.open(lab, 5);
        p.say(Frames.FIN | Frames.ACK, 1001 + 1448, 100001, "x".repeat(600));
        p.say(Frames.ACK, 1001, 100001, "x".repeat(1448));
        Check.same("at NEXT and WINDOW it counts", p.look(1), 1001 + 2049);
        Peer q = Peer.open(lab, 6);
        q.say(Frames.FIN | Frames.ACK, 1001 + 1448, 200001, "x".repeat(601));
        q.say(Frames.ACK, 1001, 200001, "x".repeat(1448));
        Check.same("behind that it does not", q.look(1), 1001 + 2048);
    }

    private static void closing() {
        Lab lab = new Lab();
        lab.page("/", "P");
        Peer p = Peer.open(lab, 5);
        int length = "HTTP/1.1 200 OK\r\nContent-Length: 1\r\nConnection: close\r\n\r\nP".length();
        p.send("GET / HTTP/1.0\r\n\r\n");
        Check.same("FIN goes with the last byte", lab.lastSegment(), "FPA 100001 1019 2048 " + length);
        Check.same("data acknowledged", p.acknowledge(length), 0);
        Check.same("FIN is not yet", p.look(0), 2);
        Check.same("FIN acknowledged", p.acknowledge(1), 0);
        Check.same("state 3", p.look(0), 3);
        Check.same("no timer", p.look(11), -1);
        Check.same("data are taken still", p.send("GET / HTTP/1.1\r\n\r\n"), 1);
        Check.same("but not read", p.look(7), 18);
        Check.same("the other's FIN", p.fin(), 1);
        Check.same("its ACK", lab.lastSegment(), "A " + p.ours + " 1038 2030");
        Check.yes("it is gone", !p.isThere());
    }

    private static void closingFirst() {
        Lab lab = new Lab();
        Peer p = Peer.open(lab, 5);
        p.send("bad\r\n\r\n");
        int length = p.look(8);
        Check.same("the other's FIN before ours is acknowledged", p.fin(), 1);
        Check.same("an ACK", lab.lastSegment(), "A " + (100002 + length) + " 1009 2048");
        Check.same("still there", p.look(0), 2);
        Check.same("all acknowledged", p.acknowledge(length + 1), 0);
        Check.yes("it is gone", !p.isThere());
        Peer q = Peer.open(lab, 6);
        q.send("bad\r\n\r\n");
        q.ours += length + 1;
        Check.same("ours acknowledged by the FIN itself", q.fin(), 1);
        Check.same("an ACK", lab.lastSegment(), "A " + q.ours + " 1009 2048");
        Check.yes("it is gone", !q.isThere());
    }

    private static void leavingEnds() {
        Lab lab = new Lab();
        Peer p = Peer.open(lab, 5);
        p.send("bad\r\n\r\n");
        p.acknowledge(p.look(8) + 1);
        Check.same("state 3", p.look(0), 3);
        lab.x.tick(30000);
        Check.same("something comes", p.send("x"), 1);
        Check.same("before its time", lab.x.tick(29999), 0);
        Check.yes("it is there", p.isThere());
        Check.same("its time", lab.x.tick(1), 0);
        Check.yes("it is gone", !p.isThere());
    }

    /** What does not fit is not even an acknowledgement. */
    private static void oldSegment() {
        Lab lab = new Lab();
        Peer p = Peer.open(lab, 5);
        p.send("A / HTTP/1.1\r\n\r\n");
        Check.same("old data that acknowledge all", p.say(Frames.ACK, p.number - 1, p.look(3), "\n"), 1);
        Check.same("acknowledge nothing", p.look(2), 100001);
        Check.same("empty, before NEXT", p.say(Frames.ACK, p.number - 1, p.look(3), ""), 1);
        Check.same("acknowledges nothing", p.look(2), 100001);
        Check.same("empty, behind the window", p.say(Frames.ACK, p.number + 2048, p.look(3), ""), 1);
        Check.same("acknowledges nothing", p.look(2), 100001);
    }

    private static void bytesBeyondTheFin() {
        Lab lab = new Lab();
        Peer p = Peer.open(lab, 5);
        p.say(Frames.ACK, 1003, 100001, "cdefgh");
        p.say(Frames.ACK | Frames.FIN, 1001, 100001, "ab");
        Check.same("NEXT", p.look(1), 1004);
        Check.same("the INBOX", p.look(7), 2);
        Check.same("FIN of ours", lab.lastSegment(), "FA 100001 1004 2046");
    }

    /** A connection behind another one has nothing of it. */
    private static void usedAgain() {
        Lab lab = new Lab();
        lab.page("/", Frames.fill(600, 'p'));
        Peer p = Peer.open(lab, 5, 100, 4000);
        p.send("GET / HTTP/1.1\r\n\r\nGET ");
        p.acknowledge(0);
        p.acknowledge(0);
        lab.x.tick(3000);
        p.acknowledge(0);
        p.acknowledge(0);
        p.say(Frames.ACK | Frames.FIN, p.number + 50, p.ours, "abc");
        Check.same("tried", p.look(9), 2);
        p.say(Frames.RST, p.number, 0, "");
        Peer q = new Peer(lab, p.address, 9, 1000);
        q.say(Frames.SYN, 1000, 0, "");
        Check.same("no tries of the other's", q.look(9), 0);
        q.say(Frames.RST, 1001, 0, "");
        usedAfter(lab);
    }

    private static void usedAfter(Lab lab) {
        Peer q = Peer.open(lab, 6, 200, 4000);
        int[] due = {2, 1001, 300001, 300001, 4000, 400, 65535, 0, 0, 0, 1000, -1};
        for (int what = 0; what < 12; what++) {
            Check.same("what " + what, q.look(what), due[what]);
        }
        q.send("x".repeat(54));
        Check.same("no bytes of the other's", q.look(7), 54);
        Check.same("no FIN of the other's", q.look(1), 1055);
        q.send("\r\n\r\n");
        q.acknowledge(0);
        Check.same("no doubles of the other's", q.acknowledge(0), 0);
        Check.same("but its own", q.acknowledge(0), 1);
        q.acknowledge(67);
        Check.same("state 3", q.look(0), 3);
        q.say(Frames.RST, q.number, 0, "");
        Peer r = Peer.open(lab, 7);
        Check.same("the first timeout", r.send("GET / HTTP/1.1\r\n\r\n"), 2);
        Check.same("no state of the other's", lab.x.tick(1000), 1);
    }

    /** Where bytes were read, others can come too early again. */
    private static void roomAgain() {
        Lab lab = new Lab();
        String head = "A / HTTP/1.1\r\nA:";
        String request = head + "x".repeat(508 - head.length()) + "\r\n\r\n";
        String last = "A / HTTP/1.0\r\nA:" + "x".repeat(508 - head.length()) + "\r\n\r\n";
        String all = request + request + request + last;
        Check.same("2048 bytes", all.length(), 2048);
        Peer p = Peer.open(lab, 5);
        p.say(Frames.ACK, 1001 + 512, 100001, all.substring(512, 1812));
        p.say(Frames.ACK, 1001 + 1812, 100001, all.substring(1812));
        p.say(Frames.ACK, 1001, 100001, all.substring(0, 512));
        Check.same("NEXT", p.look(1), 1001 + 2048);
        Check.same("all were read", p.look(7), 0);
        p.say(Frames.ACK, 1001 + 2048, 100001, "y".repeat(1000));
        p.say(Frames.ACK, 1001 + 3048, 100001, "y".repeat(536));
        Check.same("what came then", p.look(7), 1536);
        Check.same("and no more", p.look(1), 1001 + 2048 + 1536);
    }

    private static void tooFarAcknowledged() {
        Lab lab = new Lab();
        Peer p = Peer.open(lab, 5);
        Check.same("what was not sent", p.say(Frames.ACK, 1001, 100002, "abc"), 1);
        Check.same("an ACK", lab.lastSegment(), "A 100001 1001 2048");
        Check.same("nothing came", p.look(7), 0);
        Check.same("what was acknowledged before", p.say(Frames.ACK, 1001, 99000, "abc"), 1);
        Check.same("its data come", p.look(7), 3);
    }
}
