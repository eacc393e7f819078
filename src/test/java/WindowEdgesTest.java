/** The boundary cases of what comes to a connection, sentence by sentence: (a), (b), (c) and (f) of part 2. */
public final class WindowEdgesTest {
    private static final int HIM = 0x0a000102;
    /** First numbers of the other: such that its bytes go over 0, over the sign, and over neither. */
    private static final int[] FIRSTS = {1000, -9, -10, -2060, Integer.MAX_VALUE - 8, Integer.MAX_VALUE - 2058};
    private static final int[] ROOMS = {0, 1, 2, 3, 2047, 2048};

    public static void main(String[] args) {
        emptyOnes();
        onesOfALength();
        onesOverTheWholeWindow();
        whatIsSentIfNot();
        everyFlag();
        everyFlagInState1();
        acknowledgesOursAnd1();
        timerOfTheSynEnds();
        notFittingInState1();
        bytesBeforeNextAndBehindWindow();
        bytesTooEarly();
        whatIsThereStays();
        placesOfAFin();
        firstFinThatIsTold();
        finToldTooFar();
        bytesBehindAFin();
        nothingBehindAReachedFin();
        windowIs2048LessTheInbox();
        Check.end();
    }

    private static boolean isIn(long place, int room) {
        return place >= 0 && place < room;
    }

    /** "it fits if LEN is 0 and its number is NEXT, or from NEXT on and before NEXT and WINDOW". */
    private static void emptyOnes() {
        for (int first : FIRSTS) {
            for (int room : ROOMS) {
                int[] places = {Integer.MIN_VALUE, -2049, -2048, -2, -1, 0, 1, room - 1, room, room + 1, 4096, Integer.MAX_VALUE};
                Lab lab = new Lab();
                Peer p = Peer.leaving(lab, 5, first, room);
                for (int place : places) {
                    int due = place == 0 || isIn(place, room) ? 0 : 1;
                    String what = "empty at " + place + ", room " + room + ", first " + first;
                    Check.same(what, p.say(Frames.ACK, p.number + place, p.ours, ""), due);
                }
            }
        }
    }

    /** "or LEN is above 0, WINDOW too, and its first or last number is so": an RST shows whether it fits. */
    private static void onesOfALength() {
        for (int first : FIRSTS) {
            for (int room : ROOMS) {
                for (int length = 1; length <= 3; length++) {
                    for (int place : new int[] {-length - 1, -length, 1 - length, -1, 0, 1, room - 1, room, room + 1}) {
                        reset(first, room, place, length, 0);
                        reset(first, room, place, length - 1, 1);
                    }
                }
            }
        }
    }

    private static void reset(int first, int room, int place, int bytes, int fin) {
        Lab lab = new Lab();
        Peer p = Peer.leaving(lab, 5, first, room);
        boolean fits = isIn(place, room) || isIn(place + bytes + fin - 1, room);
        String what = bytes + " bytes, FIN " + fin + " at " + place + ", room " + room + ", first " + first;
        Check.same(what, p.say(Frames.RST | Frames.FIN * fin, p.number + place, 0, "y".repeat(bytes)), 0);
        Check.same(what + ": fits", p.isThere() ? 0 : 1, fits ? 1 : 0);
    }

    /** Where neither the first nor the last number is in it, it does not fit, though others are. */
    private static void onesOverTheWholeWindow() {
        for (int room : new int[] {1, 2, 3, 1000}) {
            reset(1000, room, -1, room + 1, 0);
            reset(1000, room, -1, room + 2, 0);
            reset(1000, room, -1, room + 1, 1);
            reset(1000, room, 0, room + 2, 0);
            reset(1000, room, -5, room + 5, 0);
            reset(1000, room, -5, room + 6, 0);
        }
    }

    /** "If not: nothing for RST, else an ACK is sent": and nothing of it counts. */
    private static void whatIsSentIfNot() {
        for (int flags = 0; flags < 256; flags++) {
            Lab lab = new Lab();
            Peer p = Peer.open(lab, 5);
            p.send("A / HTTP/1.1\r\n\r\n");
            int due = (flags & Frames.RST) != 0 ? 0 : 1;
            String before = Sight.of(lab);
            p.window = 7;
            Check.same("flags " + flags, p.say(flags, p.number + 2048, 100001 + p.look(8), "x"), due);
            if (due == 1) {
                Check.same("an ACK", lab.lastSegment(), "A 100055 1017 2048");
            } else {
                Check.same("nothing", Sight.of(lab), before);
            }
            Check.same("nothing is acknowledged", p.look(2), 100001);
            Check.same("the window is not taken", p.look(4), 4000);
        }
    }

    /** "RST: the CONNECTION goes. SYN: an ACK is sent, nothing more. Without ACK: nothing." */
    private static void everyFlag() {
        for (int flags = 0; flags < 256; flags++) {
            Lab lab = new Lab();
            Peer p = Peer.open(lab, 5);
            p.window = 7;
            boolean counts = (flags & (Frames.RST | Frames.SYN)) == 0 && (flags & Frames.ACK) != 0;
            boolean answered = (flags & Frames.RST) == 0 && (counts || (flags & Frames.SYN) != 0);
            Check.same("flags " + flags, p.say(flags, 1001, 100001, "x"), answered ? 1 : 0);
            Check.same("flags " + flags + ": there", p.isThere() ? 0 : 1, flags >> 2 & 1);
            if (p.isThere()) {
                Check.same("flags " + flags + ": NEXT", p.look(1), counts ? 1002 + (flags & 1) : 1001);
                Check.same("flags " + flags + ": window", p.look(4), counts ? 7 : 4000);
            }
            if (answered && !counts) {
                Check.same("an ACK", lab.lastSegment(), "A 100001 1001 2048");
            }
        }
    }

    private static void everyFlagInState1() {
        for (int flags = 0; flags < 256; flags++) {
            Lab lab = new Lab();
            Peer p = new Peer(lab, HIM, 5, 1);
            p.say(Frames.SYN, 1, 0, "");
            boolean counts = (flags & (Frames.RST | Frames.SYN)) == 0 && (flags & Frames.ACK) != 0;
            boolean answered = (flags & Frames.RST) == 0 && (counts || (flags & Frames.SYN) != 0);
            Check.same("flags " + flags, p.say(flags, 2, 100001, "x"), answered ? 1 : 0);
            Check.same("flags " + flags + ": there", p.isThere() ? 0 : 1, flags >> 2 & 1);
            if (p.isThere()) {
                Check.same("flags " + flags + ": state", p.look(0), counts ? 2 : 1);
                Check.same("flags " + flags + ": NEXT", p.look(1), counts ? 3 + (flags & 1) : 2);
            }
        }
    }

    /** "In state 1: if it acknowledges OURS and 1 [...]; else RST with that number is sent, nothing more." */
    private static void acknowledgesOursAnd1() {
        int[] others = {100000, 100002, 0, 1, -1, 99999, 100001 + Integer.MIN_VALUE, 100001 + Integer.MAX_VALUE};
        for (int ack : others) {
            Lab lab = new Lab();
            Peer p = new Peer(lab, HIM, 5, 1);
            p.say(Frames.SYN, 1, 0, "");
            lab.x.tick(1500);
            p.window = 7;
            Check.same("acknowledges " + ack, p.say(Frames.ACK | Frames.FIN, 2, ack, "x"), 1);
            Check.same("RST", lab.lastSegment(), "R " + (ack & 0xffffffffL) + " 0 0");
            int[] due = {1, 2, 100000, 100001, 4000, 536, 1072, 0, 0, 1, 2000, 3000};
            for (int what = 0; what < 12; what++) {
                Check.same("what " + what, p.look(what), due[what]);
            }
        }
        Lab lab = new Lab();
        Peer p = new Peer(lab, HIM, 5, 1);
        p.say(Frames.SYN, 1, 0, "");
        lab.x.tick(1500);
        p.window = 7;
        Check.same("OURS and 1", p.say(Frames.ACK, 2, 100001, "x"), 1);
        int[] due = {2, 3, 100001, 100001, 7, 536, 1072, 1, 0, 0, 1000, -1};
        for (int what = 0; what < 12; what++) {
            Check.same("what " + what, p.look(what), due[what]);
        }
    }

    /** "the TIMER ends": where a shut window makes it begin at once, it begins anew. */
    private static void timerOfTheSynEnds() {
        for (int window = 0; window <= 1; window++) {
            Lab lab = new Lab();
            Peer p = new Peer(lab, HIM, 5, 1);
            p.say(Frames.SYN, 1, 0, "");
            lab.x.tick(1500);
            Check.same("the SYN's TIMER", p.look(11), 3000);
            p.window = window;
            p.say(Frames.ACK, 2, 100001, "A / HTTP/1.1\r\n\r\n");
            Check.same("a TIMER of its own, window " + window, p.look(11), 2500);
            Check.same("TIMEOUT", p.look(10), 1000);
        }
    }

    private static void notFittingInState1() {
        for (int place : new int[] {-1, 2048}) {
            Lab lab = new Lab();
            Peer p = new Peer(lab, HIM, 5, 1);
            p.say(Frames.SYN, 1, 0, "");
            Check.same("at " + place, p.say(Frames.ACK, 2 + place, 100001, ""), 1);
            Check.same("an ACK", lab.lastSegment(), "A 100001 2 2048");
            Check.same("still state 1", p.look(0), 1);
            Check.same("an RST at " + place, p.say(Frames.RST, 2 + place, 100001, ""), 0);
            Check.same("still there", p.look(0), 1);
        }
        for (int place : new int[] {1, 2047}) {
            Lab lab = new Lab();
            Peer p = new Peer(lab, HIM, 5, 1);
            p.say(Frames.SYN, 1, 0, "");
            Check.same("at " + place, p.say(Frames.ACK, 2 + place, 100001, ""), 0);
            Check.same("state 2", p.look(0), 2);
            Check.same("NEXT", p.look(1), 2);
        }
    }

    /** "bytes from NEXT on, before NEXT and WINDOW [...] are kept". */
    private static void bytesBeforeNextAndBehindWindow() {
        for (int first : FIRSTS) {
            for (int room : ROOMS) {
                for (int place = -2; place <= 0; place++) {
                    for (int n : new int[] {1, 2, 3, 4, 5, 1200}) {
                        taken(first, room, place, n);
                    }
                }
            }
        }
    }

    private static void taken(int first, int room, int place, int n) {
        Lab lab = new Lab();
        Peer p = Peer.leaving(lab, 5, first, room);
        boolean fits = isIn(place, room) || isIn(place + n - 1, room);
        int due = fits ? Math.max(0, Math.min(place + n, room)) : 0;
        String what = n + " bytes at " + place + ", room " + room + ", first " + first;
        Check.same(what, p.say(Frames.ACK, p.number + place, p.ours, "y".repeat(n)), 1);
        Check.same(what + ": the INBOX", p.look(7), 2048 - room + due);
        Check.same(what + ": NEXT", p.look(1), p.number + due);
        long next = p.number + due & 0xffffffffL;
        Check.same(what + ": the ACK", lab.lastSegment(), "A " + p.ours + " " + next + " " + (room - due));
    }

    /** Bytes that come too early count when those before them have come. */
    private static void bytesTooEarly() {
        for (int first : FIRSTS) {
            for (int room : new int[] {2, 3, 4, 2048}) {
                Lab lab = new Lab();
                Peer p = Peer.leaving(lab, 5, first, room);
                p.say(Frames.ACK, p.number + room - 1, p.ours, "yz");
                Check.same("the last one of all", p.look(1), p.number);
                p.say(Frames.ACK, p.number + 1, p.ours, "y".repeat(Math.min(room - 2, 1000)));
                if (room == 2048) {
                    p.say(Frames.ACK, p.number + 1001, p.ours, "y".repeat(1046));
                }
                Check.same("all but the first", p.look(1), p.number);
                p.say(Frames.ACK, p.number, p.ours, "y");
                Check.same("all of " + room, p.look(1), p.number + room);
                Check.same("the INBOX is full", p.look(7), 2048);
            }
        }
    }

    /** "are kept (what is there stays)": whichever way they overlap. */
    private static void whatIsThereStays() {
        String request = "GET /ab HTTP/1.1\r\n\r\n";
        String wrong = "GET /xy HTTP/1.1\r\n\r\n";
        for (int first : FIRSTS) {
            for (int from = 1; from <= 6; from++) {
                Lab lab = new Lab();
                lab.page("/ab", "1");
                Peer p = Peer.from(lab, 5, first);
                p.say(Frames.ACK, p.number + 5, p.ours, request.substring(5, 7));
                p.say(Frames.ACK, p.number + from, p.ours, wrong.substring(from));
                p.say(Frames.ACK, p.number + 3, p.ours, wrong.substring(3, 7));
                p.say(Frames.ACK, p.number, p.ours, wrong.substring(0, 12));
                Check.same("what came first", lab.data(lab.sent() - 1), "HTTP/1.1 200 OK\r\nContent-Length: 1\r\n\r\n1");
            }
        }
    }

    /** "the place of a FIN [...] from NEXT on and not behind NEXT and WINDOW, too". */
    private static void placesOfAFin() {
        for (int first : FIRSTS) {
            for (int room : new int[] {1, 2, 3, 2048}) {
                for (int n = 0; n <= 4; n++) {
                    finInPlace(first, room, n);
                }
            }
        }
        for (int length : new int[] {1000, 1046, 1047}) {
            Lab lab = new Lab();
            Peer p = Peer.leaving(lab, 5, 1000, 2048);
            p.say(Frames.ACK, p.number, p.ours, "y".repeat(1001));
            p.say(Frames.ACK | Frames.FIN, p.number + 1001, p.ours, "y".repeat(length));
            Check.same("a FIN at " + (1001 + length), p.isThere() ? 0 : 1, 1);
        }
        Lab lab = new Lab();
        Peer p = Peer.leaving(lab, 5, 1000, 2048);
        p.say(Frames.ACK, p.number, p.ours, "y".repeat(1001));
        p.say(Frames.ACK | Frames.FIN, p.number + 1001, p.ours, "y".repeat(1048));
        Check.same("behind NEXT and WINDOW", p.look(1), p.number + 2048);
    }

    private static void finInPlace(int first, int room, int n) {
        Lab lab = new Lab();
        Peer p = Peer.leaving(lab, 5, first, room);
        String what = "FIN behind " + n + " bytes, room " + room + ", first " + first;
        Check.same(what, p.say(Frames.ACK | Frames.FIN, p.number, p.ours, "y".repeat(n)), 1);
        boolean reached = n <= room;
        long next = p.number + Math.min(n, room) + (reached ? 1 : 0) & 0xffffffffL;
        Check.same(what, lab.lastSegment(), "A " + p.ours + " " + next + " " + Math.max(0, room - n));
        Check.same(what + ": reached", p.isThere() ? 0 : 1, reached ? 1 : 0);
    }

    /** "the first one that is told": another before or behind it is none. */
    private static void firstFinThatIsTold() {
        for (int first : FIRSTS) {
            for (int second : new int[] {0, 1, 4, 5, 6, 9}) {
                Lab lab = new Lab();
                Peer p = Peer.from(lab, 5, first);
                p.say(Frames.ACK | Frames.FIN, p.number + 5, p.ours, "");
                p.say(Frames.ACK | Frames.FIN, p.number + second, p.ours, "");
                Check.same("not reached", p.look(1), p.number);
                p.say(Frames.ACK, p.number, p.ours, "abcd");
                Check.same("not reached", p.look(1), p.number + 4);
                p.say(Frames.ACK, p.number + 4, p.ours, "efgh");
                Check.same("reached behind 5 bytes", p.look(1), p.number + 6);
                Check.same("5 bytes", p.look(7), 5);
            }
        }
    }

    /** One that is behind NEXT and WINDOW is not told, so that a later one is the first. */
    private static void finToldTooFar() {
        for (int length : new int[] {8, 9}) {
            Lab lab = new Lab();
            Peer p = Peer.open(lab, 5);
            p.say(Frames.ACK | Frames.FIN, 1001 + 2040, 100001, "y".repeat(length));
            p.say(Frames.ACK | Frames.FIN, 1001, 100001, "abc");
            Check.same("the FIN at 3", p.look(1), length == 9 ? 1005 : 1004);
            Check.same("an answer", lab.lastSegment(), length == 9 ? "FA 100001 1005 2045" : "A 100001 1004 2045");
        }
    }

    /** "and before a FIN that is told", "NEXT moves over bytes that are there (not beyond the FIN)". */
    private static void bytesBehindAFin() {
        for (int first : FIRSTS) {
            Lab before = new Lab();
            Peer p = Peer.from(before, 5, first);
            p.say(Frames.ACK | Frames.FIN, p.number + 3, p.ours, "");
            p.say(Frames.ACK, p.number, p.ours, "abcdef");
            Check.same("told before the bytes", p.look(1), p.number + 4);
            Check.same("three bytes", p.look(7), 3);
            Lab behind = new Lab();
            Peer q = Peer.from(behind, 5, first);
            q.say(Frames.ACK, q.number + 1, q.ours, "bcdef");
            q.say(Frames.ACK | Frames.FIN, q.number + 3, q.ours, "");
            q.say(Frames.ACK, q.number, q.ours, "a");
            Check.same("told behind the bytes", q.look(1), q.number + 4);
            Check.same("three bytes", q.look(7), 3);
            Lab alone = new Lab();
            Peer r = Peer.from(alone, 5, first);
            r.say(Frames.ACK, r.number + 1, r.ours, "bcdef");
            Check.same("FIN at NEXT itself", r.fin(), 1);
            Check.same("no byte at all", r.look(7), 0);
            Check.same("one more", r.look(1), r.number);
        }
    }

    /** "Data and FIN (if the other's FIN is not reached yet)". */
    private static void nothingBehindAReachedFin() {
        Lab lab = new Lab();
        Peer p = Peer.open(lab, 5);
        p.send("abc");
        p.fin();
        for (int flags : new int[] {Frames.ACK, Frames.ACK | Frames.FIN}) {
            Check.same("more", p.say(flags, p.number, p.ours, "GET / HTTP/1.1\r\n\r\n"), 1);
            Check.same("an ACK", lab.lastSegment(), "A 100002 1005 2045");
            Check.same("NEXT", p.look(1), 1005);
            Check.same("the INBOX", p.look(7), 3);
        }
        Check.same("a FIN more", p.say(Frames.ACK | Frames.FIN, p.number, p.ours, ""), 1);
        Check.same("NEXT", p.look(1), 1005);
    }

    /** "WINDOW is 2048 less what is in the INBOX": what came too early is not in it. */
    private static void windowIs2048LessTheInbox() {
        Lab lab = new Lab();
        Peer p = Peer.open(lab, 5);
        p.say(Frames.ACK, 1101, 100001, "y".repeat(100));
        Check.same("too early", lab.lastSegment(), "A 100001 1001 2048");
        p.say(Frames.ACK, 1001, 100001, "y".repeat(100));
        Check.same("then", lab.lastSegment(), "A 100001 1201 1848");
        p.say(Frames.ACK, 1201, 100001, "y".repeat(311));
        Check.same("511 bytes", lab.lastSegment(), "A 100001 1512 1537");
        p.say(Frames.ACK, 1512, 100001, "y");
        Check.same("all gone by 431", lab.lastSegment(), "FPA 100001 1513 2048 86");
    }
}
