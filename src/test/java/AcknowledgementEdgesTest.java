/** The boundary cases of acknowledgements, sentence by sentence: (d) and (e) of part 2. */
public final class AcknowledgementEdgesTest {
    private static final String GET = "GET / HTTP/1.1\r\n\r\n";

    public static void main(String[] args) {
        behindWhatWasSent();
        behindByTheSign();
        behindUnacked();
        timerAnewOrEnded();
        spanBelowLimit();
        spanByLessAndLess();
        spanByOneAtLeast();
        doublesByTheThird();
        whatIsADouble();
        doublesAreZero();
        halfAtLeastTwoMss();
        sentAgainByTheThird();
        windowIsTaken();
        windowIsNotTaken();
        windowOverTheWrapAround();
        finOfOursAcknowledged();
        bothFins();
        goesAfter60000();
        Check.end();
    }

    /** A server with a page of 1500 bytes, whose answer has 1541. */
    private static Lab lab() {
        Lab lab = new Lab();
        lab.page("/", Frames.fill(1500, 'p'));
        return lab;
    }

    /** "An acknowledgement behind what was sent: an ACK is sent, nothing more." */
    private static void behindWhatWasSent() {
        for (int beyond : new int[] {1, 2, 100, Integer.MAX_VALUE}) {
            Lab lab = lab();
            Peer p = Peer.open(lab, 5, 100, 4000);
            p.send(GET);
            p.window = 7;
            Check.same("beyond by " + beyond, p.say(Frames.ACK | Frames.FIN, p.number, 100201 + beyond, "x"), 1);
            Check.same("an ACK", lab.lastSegment(), "A 100201 1019 2048");
            int[] due = {2, 1019, 100001, 100201, 4000, 200, 65535, 0, 1541, 0, 1000, 1000};
            for (int what = 0; what < 12; what++) {
                Check.same("what " + what, p.look(what), due[what]);
            }
        }
        Lab lab = lab();
        Peer p = Peer.open(lab, 5, 100, 4000);
        p.send(GET);
        Check.same("all that was sent", p.acknowledge(200), 3);
        Check.same("UNACKED", p.look(2), 100201);
    }

    /** "before, behind are by the sign of the difference". */
    private static void behindByTheSign() {
        Lab lab = lab();
        Peer p = Peer.open(lab, 5, 100, 4000);
        p.send(GET);
        Check.same("2147483647 behind", p.say(Frames.ACK, p.number, 100201 + Integer.MAX_VALUE, "x"), 1);
        Check.same("nothing more", p.look(1), p.number);
        Check.same("2147483648 is before", p.say(Frames.ACK, p.number, 100201 + Integer.MIN_VALUE, "x"), 1);
        Check.same("its data count", p.look(1), p.number + 1);
        Check.same("but acknowledges nothing", p.look(2), 100001);
        p.number++;
        Check.same("2147483647 before", p.say(Frames.ACK, p.number, 100201 - Integer.MAX_VALUE, "y"), 1);
        Check.same("its data count", p.look(1), p.number + 1);
    }

    /** "One behind UNACKED (the first byte that is not acknowledged): that is moved". */
    private static void behindUnacked() {
        for (int n : new int[] {-100, -1, 0, 1, 99, 100, 101, 199, 200}) {
            Lab lab = lab();
            Peer p = Peer.open(lab, 5, 100, 4000);
            p.send(GET);
            lab.x.tick(1000);
            Check.same("TRIES", p.look(9), 1);
            p.acknowledge(n);
            int moved = Math.max(n, 0);
            Check.same("UNACKED by " + n, p.look(2), 100001 + moved);
            Check.same("the OUTBOX", p.look(8), 1541 - moved);
            Check.same("TRIES", p.look(9), n > 0 ? 0 : 1);
            Check.same("TIMEOUT", p.look(10), n > 0 ? 1000 : 2000);
            Check.same("SPAN", p.look(5), n > 0 ? 200 : 100);
        }
    }

    /** "the TIMER begins anew if something is not acknowledged, else it ends". */
    private static void timerAnewOrEnded() {
        Lab lab = lab();
        lab.page("/s", "s");
        Peer p = Peer.open(lab, 5, 536, 4000);
        p.send("GET /s HTTP/1.1\r\n\r\n");
        lab.x.tick(300);
        p.acknowledge(38);
        Check.same("one byte is not", p.look(11), 1300);
        p.acknowledge(1);
        Check.same("none is not", p.look(11), -1);
        p.send("GET /s HTTP/1.0\r\n\r\n");
        lab.x.tick(300);
        p.acknowledge(58);
        Check.same("the FIN is not", p.look(11), 1600);
        p.acknowledge(1);
        Check.same("nothing is not", p.look(11), -1);
    }

    /** A peer with MSS 64 of whose answers as many bytes fly as its window has. */
    private static Peer flying(Lab lab, int port, int window) {
        Peer p = Peer.open(lab, port, 64, window);
        p.send(GET.repeat(2));
        for (int i = 0; i < 8; i++) {
            p.acknowledge(64);
        }
        Check.same("what flies", p.look(3) - p.look(2), window);
        return p;
    }

    /** "SPAN grows by MSS if it is below LIMIT, else by MSS * MSS / SPAN". */
    private static void spanBelowLimit() {
        for (int window = 254; window <= 264; window++) {
            Lab lab = lab();
            Peer p = flying(lab, 5, window);
            lab.x.tick(1000);
            int limit = Math.max(128, window / 2);
            Check.same("LIMIT", p.look(6), limit);
            Check.same("SPAN", p.look(5), 64);
            p.acknowledge(1);
            Check.same("64 is below LIMIT", p.look(5), 128);
            p.acknowledge(1);
            Check.same("128 below " + limit, p.look(5), 128 < limit ? 192 : 160);
        }
    }

    private static void spanByLessAndLess() {
        for (int mss : new int[] {64, 65, 100, 535, 536}) {
            Lab lab = lab();
            Peer p = Peer.open(lab, 5, mss, 4000);
            p.send(GET);
            lab.x.tick(1000);
            p.acknowledge(1);
            int span = 2 * mss;
            for (int i = 0; i < 60; i++) {
                Check.same("SPAN of MSS " + mss, p.look(5), span);
                p.acknowledge(1);
                span += mss * mss / span;
            }
        }
    }

    /** "at least 1": more calls than an object is promised for, but no fewer lead there. */
    private static void spanByOneAtLeast() {
        Lab lab = lab();
        Peer p = flying(lab, 5, 512);
        lab.x.tick(1000);
        Check.same("LIMIT", p.look(6), 256);
        p.window = 4000;
        int before = 0;
        for (int i = 0; i < 4000 && p.look(5) < 4200; i++) {
            before = p.look(5);
            if (p.look(8) < 1000) {
                p.send(GET.repeat(2));
            }
            p.acknowledge(1);
            int due = before < 256 ? 64 : Math.max(1, 4096 / before);
            if (p.look(5) != before + due) {
                Check.same("SPAN behind " + before, p.look(5), before + due);
            }
        }
        Check.same("SPAN beyond MSS * MSS", p.look(5), 4200);
        Check.same("the step before it", before, 4199);
    }

    /** "DOUBLES one more; with the third [...] what is first not acknowledged is sent again." */
    private static void doublesByTheThird() {
        Lab lab = lab();
        Peer p = flying(lab, 5, 512);
        int[] frames = {0, 0, 1, 0, 0, 0, 0, 0};
        for (int i = 0; i < frames.length; i++) {
            int span = p.look(5);
            Check.same("double " + (i + 1), p.acknowledge(0), frames[i]);
            Check.same("LIMIT", p.look(6), i < 2 ? 65535 : 256);
            Check.same("SPAN", p.look(5), i < 2 ? span : 256);
        }
    }

    private static void doubled(String what, int due, int flags, int place, int ack, int window, String data) {
        Lab lab = lab();
        Peer p = flying(lab, 5, 512);
        p.acknowledge(0);
        p.acknowledge(0);
        p.window = window;
        p.say(flags, p.number + place, p.ours + ack, data);
        Check.same(what, p.look(6), due);
    }

    /** "One that is UNACKED, with LEN 0, the window as it was, and something not acknowledged". */
    private static void whatIsADouble() {
        doubled("the third", 256, Frames.ACK, 0, 0, 512, "");
        doubled("with PSH", 256, Frames.ACK | Frames.PSH, 0, 0, 512, "");
        doubled("of another number", 256, Frames.ACK, 2047, 0, 512, "");
        doubled("before UNACKED", 65535, Frames.ACK, 0, -1, 512, "");
        doubled("behind UNACKED", 65535, Frames.ACK, 0, 1, 512, "");
        doubled("with a byte", 65535, Frames.ACK, 0, 0, 512, "x");
        doubled("with an old byte and one more", 65535, Frames.ACK, -1, 0, 512, "xy");
        doubled("with FIN", 65535, Frames.ACK | Frames.FIN, 0, 0, 512, "");
        doubled("with a window one more", 65535, Frames.ACK, 0, 0, 513, "");
        doubled("with a window one less", 65535, Frames.ACK, 0, 0, 511, "");
        doubled("without ACK", 65535, 0, 0, 0, 512, "");
        doubled("not fitting", 65535, Frames.ACK, -1, 0, 512, "");
        Lab lab = lab();
        Peer p = Peer.open(lab, 5);
        for (int i = 0; i < 5; i++) {
            Check.same("nothing flies", p.acknowledge(0), 0);
        }
        p.send(GET);
        Check.same("none counted before", p.acknowledge(0) + p.acknowledge(0), 0);
        Check.same("the third", p.acknowledge(0), 1);
    }

    /** "TRIES and DOUBLES are 0". */
    private static void doublesAreZero() {
        Lab lab = lab();
        Peer p = flying(lab, 5, 512);
        for (int i = 0; i < 4; i++) {
            p.acknowledge(0);
            p.acknowledge(0);
            Check.yes("moved", p.acknowledge(64) > 0);
            Check.same("LIMIT as at first", p.look(6), 65535);
        }
        p.acknowledge(0);
        p.acknowledge(0);
        p.say(Frames.ACK, p.number, p.ours - 1, "");
        Check.same("an older one does not begin anew", p.acknowledge(0), 1);
    }

    /** "LIMIT is half of what is not acknowledged, at least 2 MSS". */
    private static void halfAtLeastTwoMss() {
        for (int window : new int[] {64, 128, 254, 255, 256, 257, 258, 259, 260, 261}) {
            int due = Math.max(128, window / 2);
            Lab lab = lab();
            Peer p = flying(lab, 5, window);
            p.acknowledge(0);
            p.acknowledge(0);
            p.acknowledge(0);
            Check.same("by the third double of " + window, p.look(6), due);
            Check.same("SPAN", p.look(5), due);
            Lab other = lab();
            Peer q = flying(other, 5, window);
            other.x.tick(1000);
            Check.same("by the TIMER, of " + window, q.look(6), due);
            Check.same("SPAN", q.look(5), 64);
        }
    }

    /** "what is first not acknowledged is sent again": up to MSS bytes of it, the last with FIN, or FIN alone. */
    private static void sentAgainByTheThird() {
        Lab lab = lab();
        Peer p = Peer.open(lab, 5, 536, 4000);
        p.send("GET / HTTP/1.0\r\n\r\n");
        p.acknowledge(1072);
        int[] acknowledged = {0, 486 - 1, 1};
        String[] due = {"FPA 101073 1019 2048 488", "FPA 101558 1019 2048 3", "FPA 101559 1019 2048 2"};
        for (int i = 0; i < 3; i++) {
            p.acknowledge(acknowledged[i]);
            lab.x.tick(1);
            int timer = p.look(11);
            int last = i == 0 ? 2 : 3;
            for (int k = 1; k <= last; k++) {
                Check.same("double " + k, p.acknowledge(0), k == last ? 1 : 0);
            }
            Check.same("sent again", lab.lastSegment(), due[i]);
            Check.same("the TIMER goes on", p.look(11), timer);
        }
        p.acknowledge(2);
        p.acknowledge(0);
        p.acknowledge(0);
        Check.same("the third", p.acknowledge(0), 1);
        Check.same("FIN alone", lab.lastSegment(), "FA 101561 1019 2048");
    }

    private static void window(String what, int place, int ack, int due) {
        Lab lab = lab();
        Peer p = Peer.open(lab, 5, 100, 300);
        p.send(GET);
        p.acknowledge(100);
        p.say(Frames.ACK, p.number + 10, p.ours, "");
        p.window = 777;
        p.say(Frames.ACK, p.number + place, p.ours + ack, "");
        Check.same(what, p.look(4), due);
    }

    /** "The window is taken if the acknowledgement is not before UNACKED, and the number is behind [...]". */
    private static void windowIsTaken() {
        window("a number behind", 11, 0, 777);
        window("a number far behind", 2047, 0, 777);
        window("the same number, the same acknowledgement", 10, 0, 777);
        window("the same number, an acknowledgement behind", 10, 1, 777);
        window("both behind", 11, 1, 777);
    }

    private static void windowIsNotTaken() {
        window("a number before", 9, 0, 300);
        window("a number before, an acknowledgement behind", 9, 1, 300);
        window("a number far before", 0, 100, 300);
        window("the same number, an acknowledgement before", 10, -1, 300);
        window("a number behind, an acknowledgement before", 11, -1, 300);
        window("an acknowledgement of what was not sent", 11, 2000, 300);
    }

    private static void windowOverTheWrapAround() {
        for (int first : new int[] {-6, Integer.MAX_VALUE - 5}) {
            Lab lab = lab();
            Peer p = Peer.from(lab, 5, first);
            int[] places = {0, 4, 5, 6, 5, 4, 0, 6, 2047, 7};
            int[] due = {100, 101, 102, 103, 103, 103, 103, 107, 108, 108};
            for (int i = 0; i < places.length; i++) {
                p.window = 100 + i;
                p.say(Frames.ACK, p.number + places[i], p.ours, "");
                Check.same("at " + places[i], p.look(4), due[i]);
            }
        }
    }

    /** "If the FIN of ours is acknowledged, and the other's is reached [...]; if it did not: state 3". */
    private static void finOfOursAcknowledged() {
        Lab lab = lab();
        Peer p = Peer.open(lab, 5);
        p.send("bad\r\n\r\n");
        Check.same("66 bytes and FIN", lab.lastSegment(), "FPA 100001 1008 2048 66");
        p.acknowledge(65);
        Check.same("a byte lacks", p.look(0), 2);
        p.acknowledge(1);
        Check.same("FIN lacks", p.look(0), 2);
        p.acknowledge(1);
        Check.same("all", p.look(0), 3);
        Check.same("UNACKED", p.look(2), 100068);
        Check.same("the OUTBOX", p.look(8), 0);
        Check.same("beyond FIN", p.acknowledge(1), 1);
        Check.same("an ACK", lab.lastSegment(), "A 100068 1008 2048");
        Check.same("state 3 still", p.look(0), 3);
    }

    private static void bothFins() {
        Lab lab = lab();
        Peer p = Peer.open(lab, 5);
        p.send("bad\r\n\r\n");
        p.fin();
        Check.same("the other's first", p.acknowledge(66), 0);
        Check.same("FIN of ours lacks", p.look(0), 2);
        Check.same("then ours", p.acknowledge(1), 0);
        Check.same("gone without a word", lab.x.count(2), 0);
        Peer q = Peer.open(lab, 6);
        q.send("bad\r\n\r\n");
        q.acknowledge(67);
        q.say(Frames.ACK | Frames.FIN, q.number + 1, q.ours, "");
        Check.same("told, not reached", q.look(0), 3);
        Check.same("reached", q.send("x"), 1);
        Check.same("an ACK", lab.lastSegment(), "A 200068 1010 2047");
        Check.same("gone", lab.x.count(2), 0);
    }

    /** "state 3, and it goes 60000 ms later". */
    private static void goesAfter60000() {
        Lab lab = lab();
        lab.x.tick(17);
        Peer p = Peer.leaving(lab, 5, 1000, 2048);
        lab.x.tick(1);
        Peer q = Peer.leaving(lab, 6, 1000, 2048);
        lab.x.tick(59998);
        p.acknowledge(0);
        Check.same("after 59999", p.look(0), 3);
        Check.same("no frame", lab.x.tick(1), 0);
        Check.yes("after 60000", !p.isThere());
        Check.yes("the other after 59999", q.isThere());
        lab.x.tick(1);
        Check.yes("the other after 60000", !q.isThere());
        Peer r = Peer.leaving(lab, 7, 1000, 2048);
        Check.same("no frame", lab.x.tick(100000), 0);
        Check.yes("after 100000", !r.isThere());
    }
}
