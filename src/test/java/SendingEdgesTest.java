/** The boundary cases of what may be sent, and of the TIMER's beginning, sentence by sentence. */
public final class SendingEdgesTest {
    private static final String GET = "GET / HTTP/1.1\r\n\r\n";

    public static void main(String[] args) {
        lesserOfWindowAndSpan();
        moreThanWhatIsNotAcknowledged();
        windowBelowWhatFlies();
        asManyAsThereAre();
        pushWithTheLastByte();
        finWithTheLastByte();
        finAloneWithAnyWindow();
        noFinBeforeAllIsSent();
        ackIfNothingWasSent();
        timerOfTheFirst();
        timerOfAShutWindow();
        timerEnds();
        windowsThatAreSent();
        answersOfEachLength();
        Check.end();
    }

    /** A server whose answer to "GET /" has n bytes: a page makes all but 39, 40 or 41 of them. */
    private static Lab lab(int n) {
        Lab lab = new Lab();
        int digits = n < 48 ? 1 : n < 139 ? 2 : n < 1040 ? 3 : 4;
        lab.page("/", Frames.fill(n - 37 - digits, 'p'));
        return lab;
    }

    /** "the lesser of the other's window and SPAN". */
    private static void lesserOfWindowAndSpan() {
        for (int window : new int[] {0, 1, 99, 100, 101, 127, 128, 129, 199, 200, 201, 65535}) {
            Lab lab = lab(1541);
            Peer p = Peer.open(lab, 5, 100, window);
            int k = lab.sent();
            p.send(GET);
            Check.same("window " + window, p.look(3) - 100001, Math.min(window, 200));
            Check.same("that is sent", lab.data(k).length(), Math.min(window, 200));
            Check.same("in segments", lab.sent() - k, window == 0 ? 1 : window <= 100 ? 1 : 2);
        }
    }

    /** "is more than what is not acknowledged: a segment of as many of them [...] as fit into that". */
    private static void moreThanWhatIsNotAcknowledged() {
        for (int more = 0; more <= 3; more++) {
            Lab lab = lab(1541);
            Peer p = Peer.open(lab, 5, 100, 150);
            p.send(GET);
            Check.same("what flies", p.look(3) - p.look(2), 150);
            p.window = 150 + more;
            Check.same("a window " + more + " more", p.acknowledge(0), more > 0 ? 1 : 0);
            Check.same("what flies", p.look(3) - p.look(2), 150 + more);
            if (more > 0) {
                Check.same("what fits", lab.lastSegment(), "A 100151 1019 2048 " + more);
            }
        }
    }

    private static void windowBelowWhatFlies() {
        for (int window : new int[] {0, 1, 149, 150}) {
            Lab lab = lab(1541);
            Peer p = Peer.open(lab, 5, 100, 150);
            p.send(GET);
            p.window = window;
            Check.same("a window of " + window, p.acknowledge(0), 0);
            Check.same("nothing is taken back", p.look(3), 100151);
        }
        Lab lab = lab(1541);
        Peer p = Peer.open(lab, 5, 100, 4000);
        p.send(GET);
        p.acknowledge(200);
        lab.x.tick(1000);
        Check.same("SPAN below what flies", p.look(5), 100);
        Check.same("nothing is sent by that", p.acknowledge(0), 0);
        Check.same("SPAN as what flies", p.acknowledge(100), 0);
        Check.same("SPAN", p.look(5), 200);
        Check.same("SPAN more than that", p.acknowledge(1), 1);
    }

    /** "a segment of as many of them as there are, [...] at most MSS". */
    private static void asManyAsThereAre() {
        int[][] lengths = {{63, 1}, {64, 1}, {65, 2}, {127, 2}, {128, 2}, {100, 2}};
        for (int[] n : lengths) {
            Lab lab = lab(n[0]);
            Peer p = Peer.open(lab, 5, 64, 4000);
            int k = lab.sent();
            Check.same("an answer of " + n[0], p.send(GET), n[1]);
            Check.same("all of it", lab.data(k).length(), n[0]);
            Check.same("the first segment", lab.data(k).length() - lab.data(k + 1).length(), Math.min(n[0], 64));
        }
    }

    /** "(ACK, and PSH if it has the last one there)". */
    private static void pushWithTheLastByte() {
        for (int window = 64; window <= 66; window++) {
            Lab lab = lab(65);
            Peer p = Peer.open(lab, 5, 536, window);
            p.send(GET);
            String due = window < 65 ? "A 100001 1019 2048 64" : "PA 100001 1019 2048 65";
            Check.same("a window of " + window, lab.lastSegment(), due);
        }
        Lab lab = lab(65);
        Peer p = Peer.open(lab, 5, 536, 129);
        p.send(GET + GET);
        Check.same("all but the last of two", lab.lastSegment(), "A 100001 1037 2048 129");
        p.window = 130;
        p.acknowledge(0);
        Check.same("the last of two", lab.lastSegment(), "PA 100130 1037 2048 1");
        p.send(GET);
        Check.same("nothing fits", lab.lastSegment(), "A 100131 1055 2048");
        p.acknowledge(130);
        Check.same("the last again", lab.lastSegment(), "PA 100131 1055 2048 65");
    }

    /** "with the last byte of a CONNECTION that ends, if nothing is to come, FIN is in it". */
    private static void finWithTheLastByte() {
        for (int window = 64; window <= 67; window++) {
            Lab lab = new Lab();
            Peer p = Peer.open(lab, 5, 536, window);
            p.send("bad\r\n\r\n");
            String due = window < 66 ? "A 100001 1008 2048 " + window : "FPA 100001 1008 2048 66";
            Check.same("a window of " + window, lab.lastSegment(), due);
            Check.same("FIN has a number", p.look(3), window < 66 ? 100001 + window : 100067 + 1);
        }
        Lab lab = new Lab();
        Peer p = Peer.open(lab, 5, 66, 4000);
        p.send("bad\r\n\r\n");
        Check.same("as many as MSS, and FIN", lab.lastSegment(), "FPA 100001 1008 2048 66");
        Peer q = Peer.open(lab, 6, 65, 4000);
        Check.same("one more than MSS", q.send("bad\r\n\r\n"), 2);
        Check.same("the first without", lab.segment(lab.sent() - 2), "A 200001 1008 2048 65");
        Check.same("the last with FIN", lab.lastSegment(), "FPA 200066 1008 2048 1");
    }

    /** "a FIN alone if all is sent (with any window)". */
    private static void finAloneWithAnyWindow() {
        for (int window : new int[] {0, 1, 65535}) {
            Lab lab = lab(65);
            Peer p = Peer.open(lab, 5, 536, window);
            Check.same("nothing was ever sent", p.fin(), 1);
            Check.same("a window of " + window, lab.lastSegment(), "FA 100001 1002 2048");
            Check.same("once only", p.acknowledge(0), 0);
        }
        for (int window : new int[] {0, 1, 64, 65}) {
            Lab lab = lab(65);
            Peer p = Peer.open(lab, 5, 536, 65);
            p.send(GET);
            p.window = window;
            Check.same("all flies", p.fin(), 1);
            Check.same("a window of " + window, lab.lastSegment(), "FA 100066 1020 2048");
            Check.same("the next to be sent", p.look(3), 100067);
            Check.same("FIN is no byte", p.look(8), 65);
        }
    }

    private static void noFinBeforeAllIsSent() {
        Lab lab = lab(65);
        Peer p = Peer.open(lab, 5, 536, 64);
        p.send(GET);
        Check.same("a byte waits", p.fin(), 1);
        Check.same("an ACK", lab.lastSegment(), "A 100065 1020 2048");
        Check.same("an older one", p.acknowledge(0), 0);
        Check.same("then", p.acknowledge(1), 1);
        Check.same("the last with FIN", lab.lastSegment(), "FPA 100065 1020 2048 1");
    }

    /** "Then what may is sent; if nothing was, and LEN is above 0, an ACK." */
    private static void ackIfNothingWasSent() {
        Lab lab = lab(65);
        Peer p = Peer.open(lab, 5, 536, 4000);
        Check.same("LEN 0, nothing", p.acknowledge(0), 0);
        Check.same("LEN 1, nothing", p.send("G"), 1);
        Check.same("an ACK", lab.lastSegment(), "A 100001 1002 2047");
        Check.same("LEN above 0, an answer", p.send("ET / HTTP/1.1\r\n\r\n"), 1);
        Check.same("the answer", lab.lastSegment(), "PA 100001 1019 2048 65");
        Check.same("LEN 0, and all acknowledged", p.acknowledge(65), 0);
        Check.same("a FIN has LEN 1", p.fin(), 1);
        Check.same("it is answered by FIN", lab.lastSegment(), "FA 100066 1020 2048");
        Peer q = Peer.open(lab, 6, 536, 4000);
        Check.same("a byte too early", q.say(Frames.ACK, q.number + 1, q.ours, "x"), 1);
        Check.same("a FIN too early", q.say(Frames.ACK | Frames.FIN, q.number + 5, q.ours, ""), 1);
    }

    /** "The TIMER begins with what is sent first when nothing is not acknowledged (SYN too)." */
    private static void timerOfTheFirst() {
        Lab lab = lab(65);
        lab.x.tick(10);
        Peer p = new Peer(lab, 0x0a000102, 5, 1000);
        p.say(Frames.SYN, 1000, 0, "");
        Check.same("the SYN's", p.look(11), 1010);
        lab.x.tick(10);
        p.number = 1001;
        p.ours = 100001;
        p.acknowledge(0);
        Check.same("none", p.look(11), -1);
        p.send(GET);
        Check.same("the first answer's", p.look(11), 1020);
        lab.x.tick(10);
        p.send(GET);
        Check.same("the second is not first", p.look(11), 1020);
        lab.x.tick(10);
        p.acknowledge(65);
        Check.same("anew", p.look(11), 1040);
        lab.x.tick(10);
        p.send("bad\r\n\r\n");
        Check.same("something is not acknowledged", p.look(11), 1040);
        p.acknowledge(65);
        Check.same("anew", p.look(11), 1050);
        Peer q = Peer.open(lab, 6);
        lab.x.tick(10);
        q.fin();
        Check.same("a FIN's", q.look(11), 1060);
    }

    /** "bytes in the OUTBOX, all that were sent are acknowledged, and the window is 0: the TIMER begins". */
    private static void timerOfAShutWindow() {
        for (int window = 0; window <= 1; window++) {
            Lab lab = lab(65);
            Peer p = Peer.open(lab, 5, 536, 30);
            p.send(GET);
            lab.x.tick(10);
            p.window = window;
            p.acknowledge(29);
            Check.same("a byte flies", p.look(11), 1010);
            lab.x.tick(10);
            p.acknowledge(1);
            Check.same("TIMER with a window of " + window, p.look(11), 1020);
            Check.same("the next to be sent", p.look(3), 100031 + window);
            lab.x.tick(10);
            p.acknowledge(0);
            Check.same("it runs on", p.look(11), 1020);
        }
        Lab lab = lab(65);
        Peer p = Peer.open(lab, 5, 536, 0);
        Check.same("no bytes, no TIMER", p.look(11), -1);
        p.send("GE");
        Check.same("no bytes, no TIMER", p.look(11), -1);
        lab.x.tick(5);
        p.send("T / HTTP/1.1\r\n\r\n");
        Check.same("bytes", p.look(11), 1005);
        lab.x.tick(5);
        p.send(GET);
        Check.same("more bytes", p.look(11), 1005);
    }

    /** "it ends when nothing is to be acknowledged and this is not so". */
    private static void timerEnds() {
        Lab lab = lab(65);
        Peer p = Peer.open(lab, 5, 536, 65);
        p.send(GET);
        p.acknowledge(64);
        Check.same("a byte is to be", p.look(11), 1000);
        p.window = 0;
        p.acknowledge(1);
        Check.same("nothing, though the window is 0", p.look(11), -1);
        p.send(GET);
        Check.same("bytes, and the window is 0", p.look(11), 1000);
        p.window = 65;
        lab.x.tick(10);
        Check.same("open", p.acknowledge(0), 1);
        Check.same("begun anew with what is sent", p.look(11), 1010);
        p.acknowledge(65);
        Check.same("nothing", p.look(11), -1);
        Check.same("nothing comes", lab.x.tick(100000), 0);
    }

    /** "the WINDOW (of RST 0)". */
    private static void windowsThatAreSent() {
        Lab lab = lab(65);
        for (int room : new int[] {0, 1, 1024, 2047}) {
            Peer p = Peer.leaving(lab, 5 + room % 7, 1000, room);
            Check.same("WINDOW", Frames.number(lab.lastFrame(), 48, 2), room);
            p.say(Frames.ACK, p.number - 1, p.ours, "");
            Check.same("an ACK", Frames.number(lab.lastFrame(), 48, 2), room);
            p.sayTo(81, Frames.ACK, p.number, p.ours, new byte[0], new byte[0]);
            Check.same("an RST", Frames.number(lab.lastFrame(), 48, 2), 0);
            p.say(Frames.RST, p.number, 0, "");
        }
    }

    /** Answers whose lengths are about those of one, two and three segments, one acknowledged at a time. */
    private static void answersOfEachLength() {
        for (int n : new int[] {535, 536, 537, 1071, 1072, 1073, 1541}) {
            Lab lab = lab(n);
            Peer p = Peer.open(lab, 5, 536, 65535);
            int k = lab.sent();
            p.send(GET);
            for (int i = 0; i < 3; i++) {
                p.acknowledge(Math.min(536, p.look(3) - p.look(2)));
            }
            Check.same("an answer of " + n, lab.data(k).length(), n);
            Check.same("in segments", lab.sent() - k, (n + 535) / 536);
            Check.yes("PSH with the last", lab.lastSegment().startsWith("PA"));
            Check.same("the OUTBOX", p.look(8), 0);
        }
    }
}
