/** Promise 4: what may be sent: windows, slow start, congestion, doubled acknowledgements, FIN. */
public final class SendingTest {
    /** How long the answer with a page of 1500 bytes is. */
    private static final int LONG = 1541;

    public static void main(String[] args) {
        slowStart();
        congestion();
        doubles();
        whatIsNoDouble();
        othersWindow();
        windowThatShrinks();
        windowThatIsOld();
        pushAndFin();
        finWithAnyWindow();
        acknowledgedInParts();
        answerInsteadOfAck();
        doublesAfterATimeout();
        halfOfWhatFlies();
        lastByteAlone();
        Check.end();
    }

    private static Lab lab() {
        Lab lab = new Lab();
        lab.page("/", Frames.fill(1500, 'p'));
        return lab;
    }

    private static void slowStart() {
        Lab lab = lab();
        Peer p = Peer.open(lab, 5, 100, 4000);
        Check.same("SPAN", p.look(5), 200);
        Check.same("two segments at first", p.send("GET / HTTP/1.1\r\n\r\n"), 2);
        Check.same("the first", lab.segment(lab.sent() - 2), "A 100001 1019 2048 100");
        Check.same("the second", lab.lastSegment(), "A 100101 1019 2048 100");
        Check.same("the OUTBOX", p.look(8), LONG);
        Check.same("one acknowledged, two sent", p.acknowledge(100), 2);
        Check.same("SPAN", p.look(5), 300);
        Check.same("UNACKED", p.look(2), 100101);
        Check.same("the next to be sent", p.look(3), 100401);
        Check.same("the OUTBOX", p.look(8), LONG - 100);
        Check.same("three acknowledged at once, four sent", p.acknowledge(300), 4);
        Check.same("SPAN", p.look(5), 400);
        Check.same("half a segment acknowledged", p.acknowledge(50), 2);
        Check.same("the last has what fits", lab.lastSegment(), "A 100901 1019 2048 50");
        Check.same("LIMIT as at first", p.look(6), 65535);
    }

    private static void congestion() {
        Lab lab = lab();
        Peer p = Peer.open(lab, 5, 100, 4000);
        p.send("GET / HTTP/1.1\r\n\r\n");
        lab.x.tick(1000);
        Check.same("SPAN after a timeout", p.look(5), 100);
        Check.same("LIMIT after a timeout", p.look(6), 200);
        Check.same("nothing may be sent but what flies", p.acknowledge(100), 1);
        Check.same("slow start up to LIMIT", p.look(5), 200);
        p.acknowledge(100);
        Check.same("then 100 * 100 / 200 more", p.look(5), 250);
        p.acknowledge(100);
        Check.same("then 100 * 100 / 250 more", p.look(5), 290);
        p.acknowledge(100);
        Check.same("then 100 * 100 / 290 more", p.look(5), 324);
        p.acknowledge(100);
        Check.same("LIMIT stays", p.look(6), 200);
    }

    private static void doubles() {
        Lab lab = lab();
        Peer p = Peer.open(lab, 5, 100, 4000);
        p.send("GET / HTTP/1.1\r\n\r\n");
        p.acknowledge(200);
        p.acknowledge(300);
        p.acknowledge(0);
        Check.same("a first and a second double", p.acknowledge(0), 0);
        lab.x.tick(10);
        int flies = p.look(3) - p.look(2);
        Check.same("what flies", flies, 400);
        Check.same("with the third", p.acknowledge(0), 1);
        Check.same("the first of it again", lab.lastSegment(), "A 100501 1019 2048 100");
        Check.same("LIMIT", p.look(6), 200);
        Check.same("SPAN", p.look(5), 200);
        Check.same("the TIMER goes on", p.look(11), 1000);
        Check.same("TRIES", p.look(9), 0);
        Check.same("a fourth", p.acknowledge(0), 0);
        Check.same("all of it acknowledged", p.acknowledge(400), 3);
        Check.same("SPAN then", p.look(5), 250);
        p.acknowledge(0);
        p.acknowledge(0);
        Check.same("doubles are counted anew", p.acknowledge(0), 1);
    }

    private static void whatIsNoDouble() {
        Lab lab = lab();
        Peer p = Peer.open(lab, 5, 100, 4000);
        Check.same("nothing flies", p.acknowledge(0) + p.acknowledge(0) + p.acknowledge(0), 0);
        p.send("GET / HTTP/1.1\r\n\r\n");
        p.acknowledge(0);
        p.acknowledge(0);
        Check.same("with data", p.send("x"), 1);
        Check.same("an ACK alone", lab.lastSegment(), "A 100201 1020 2047");
        p.window = 4001;
        Check.same("with another window", p.acknowledge(0), 0);
        Check.same("an older acknowledgement", p.say(Frames.ACK, p.number, p.ours - 1, ""), 0);
        Check.same("the third", p.acknowledge(0), 1);
        Check.same("is the first of it", lab.lastSegment(), "A 100001 1020 2047 100");
    }

    private static void othersWindow() {
        Lab lab = lab();
        Peer p = Peer.open(lab, 5, 100, 130);
        Check.same("a window of 130", p.send("GET / HTTP/1.1\r\n\r\n"), 2);
        Check.same("the rest of it", lab.lastSegment(), "A 100101 1019 2048 30");
        Check.same("30 more", p.acknowledge(30), 1);
        Check.same("30 more", lab.lastSegment(), "A 100131 1019 2048 30");
        p.window = 1;
        Check.same("less than what flies", p.acknowledge(100), 0);
        Check.same("what flies acknowledged", p.acknowledge(30), 1);
        Check.same("one byte", lab.lastSegment(), "A 100161 1019 2048 1");
        Check.same("the window", p.look(4), 1);
    }

    private static void windowThatShrinks() {
        Lab lab = lab();
        Peer p = Peer.open(lab, 5, 100, 1000);
        p.send("GET / HTTP/1.1\r\n\r\n");
        p.window = 0;
        Check.same("shut", p.acknowledge(100), 0);
        Check.same("TIMER of what flies", p.look(11), 1000);
        lab.x.tick(7);
        Check.same("shut, nothing flies", p.acknowledge(100), 0);
        Check.same("TIMER of the probe", p.look(11), 1007);
        Check.same("the next to be sent", p.look(3), 100201);
        lab.x.tick(1);
        Check.same("shut still", p.acknowledge(0), 0);
        Check.same("TIMER runs on", p.look(11), 1007);
        p.window = 50;
        Check.same("open", p.acknowledge(0), 1);
        Check.same("TIMER of what flies", p.look(11), 1008);
    }

    private static void windowThatIsOld() {
        Lab lab = lab();
        Peer p = Peer.open(lab, 5, 100, 300);
        p.send("GET / HTTP/1.1\r\n\r\n");
        p.acknowledge(100);
        Check.same("the window", p.look(4), 300);
        p.window = 777;
        p.say(Frames.ACK, p.number, p.ours - 100, "");
        Check.same("not by an older acknowledgement", p.look(4), 300);
        p.say(Frames.ACK, p.number + 5, p.ours, "");
        Check.same("by a number behind", p.look(4), 777);
        p.window = 888;
        p.say(Frames.ACK, p.number, p.ours, "");
        Check.same("not by a number before", p.look(4), 777);
        p.say(Frames.ACK, p.number + 5, p.ours, "");
        Check.same("by the same number", p.look(4), 888);
    }

    private static void pushAndFin() {
        Lab lab = lab();
        lab.page("/s", "s");
        Peer p = Peer.open(lab, 5, 536, 4000);
        p.send("GET / HTTP/1.1\r\n\r\n");
        p.acknowledge(1072);
        Check.same("PSH with the last byte", lab.lastSegment(), "PA 101073 1019 2048 469");
        Peer q = Peer.open(lab, 6, 536, 4000);
        Check.same("two at once", q.send("GET /s HTTP/1.1\r\n\r\nGET /s HTTP/1.1\r\nConnection: close\r\n\r\n"), 1);
        Check.same("in one segment, with FIN", lab.lastSegment(), "FPA 200001 1058 2048 97");
        Check.same("FIN has a number", q.look(3), 200001 + 98);
        Check.same("and is no byte", q.look(8), 97);
        Peer r = Peer.open(lab, 7, 536, 20);
        r.send("GET /s HTTP/1.0\r\n\r\n");
        Check.same("no FIN before the last byte", lab.lastSegment(), "A 300001 1020 2048 20");
        Check.same("no FIN before the last byte", r.acknowledge(20), 1);
        Check.same("then", r.acknowledge(20), 1);
        Check.same("FIN does not need room", lab.lastSegment(), "FPA 300041 1020 2048 18");
    }

    private static void finWithAnyWindow() {
        Lab lab = lab();
        Peer p = Peer.open(lab, 5, 536, 0);
        Check.same("FIN alone", p.fin(), 1);
        Check.same("with any window", lab.lastSegment(), "FA 100001 1002 2048");
        Check.same("TIMER", p.look(11), 1000);
        Peer q = Peer.open(lab, 6, 536, 1);
        lab.page("/s", "s");
        q.send("GET /s HTTP/1.1\r\n\r\n");
        Check.same("not before all is sent", q.fin(), 1);
        Check.same("an ACK", lab.lastSegment(), "A 200002 1021 2048");
        q.window = 4000;
        Check.same("then", q.acknowledge(1), 1);
        Check.same("with the rest", lab.lastSegment(), "FPA 200002 1021 2048 38");
    }

    private static void acknowledgedInParts() {
        Lab lab = lab();
        Peer p = Peer.open(lab, 5, 536, 4000);
        p.send("GET / HTTP/1.1\r\n\r\n");
        int k = lab.sent();
        p.acknowledge(1000);
        p.acknowledge(72);
        p.acknowledge(1);
        p.acknowledge(468);
        Check.same("the rest came once", lab.data(k), "p".repeat(LONG - 1072));
        Check.same("nothing is left", p.look(8), 0);
        Check.same("all acknowledged", p.look(2), p.look(3));
        Check.same("no TIMER", p.look(11), -1);
    }

    private static void doublesAfterATimeout() {
        Lab lab = lab();
        Peer p = Peer.open(lab, 5, 100, 4000);
        p.send("GET / HTTP/1.1\r\n\r\n");
        p.acknowledge(0);
        p.acknowledge(0);
        lab.x.tick(1000);
        Check.same("the first after a timeout", p.acknowledge(0), 0);
        Check.same("the second", p.acknowledge(0), 0);
        Check.same("the third", p.acknowledge(0), 1);
    }

    /** With many small segments flying, LIMIT is half of them, and SPAN grows by less and less. */
    private static void halfOfWhatFlies() {
        Lab lab = lab();
        Peer p = Peer.open(lab, 5, 64, 60000);
        p.send("GET / HTTP/1.1\r\n\r\n".repeat(60));
        for (int i = 0; i < 500 && p.look(3) - p.look(2) < 4000; i++) {
            p.acknowledge(64);
        }
        int flies = p.look(3) - p.look(2);
        Check.yes("4000 bytes fly", flies >= 4000);
        p.acknowledge(0);
        p.acknowledge(0);
        Check.same("with the third double", p.acknowledge(0), 1);
        Check.same("LIMIT is half", p.look(6), flies / 2);
        Check.same("SPAN is LIMIT", p.look(5), flies / 2);
        int span = flies / 2;
        for (int i = 0; i < 30; i++) {
            p.acknowledge(64);
            span += Math.max(1, 64 * 64 / span);
            Check.same("SPAN", p.look(5), span);
        }
        flies = p.look(3) - p.look(2);
        lab.x.tick(1000);
        Check.same("LIMIT is half", p.look(6), flies / 2);
        Check.same("SPAN is MSS", p.look(5), 64);
    }

    private static void lastByteAlone() {
        Lab lab = lab();
        lab.page("/s", "s");
        Peer p = Peer.open(lab, 5, 536, 38);
        p.send("GET /s HTTP/1.1\r\n\r\n");
        Check.same("all but one", lab.lastSegment(), "A 100001 1020 2048 38");
        p.acknowledge(38);
        Check.same("the last alone has PSH", lab.lastSegment(), "PA 100039 1020 2048 1");
        lab.x.tick(1000);
        Check.same("again", lab.lastSegment(), "PA 100039 1020 2048 1");
    }

    private static void answerInsteadOfAck() {
        Lab lab = lab();
        Peer p = Peer.open(lab, 5);
        Check.same("an ACK for half a request", p.send("GET / HT"), 1);
        Check.same("an ACK", lab.lastSegment(), "A 100001 1009 2040");
        Check.same("answers acknowledge", p.send("TP/1.1\r\n\r\n"), 2);
        Check.same("an answer", lab.lastSegment(), "A 100537 1019 2048 536");
        Check.same("nothing for an empty one", p.acknowledge(0), 0);
    }
}
