/** Promise 7: tick, and what comes with time. */
public final class TimerTest {
    public static void main(String[] args) {
        wrongTicks();
        timeGoesOn();
        synAgain();
        dataAgain();
        finAgain();
        probes();
        probeOfTheLastByte();
        order();
        inOneTickOrMany();
        acknowledgedBetween();
        Check.end();
    }

    private static void wrongTicks() {
        Lab lab = new Lab();
        new Peer(lab, 0x0a000102, 5, 1).say(Frames.SYN, 1, 0, "");
        int[] wrong = {-1, 100001, Integer.MIN_VALUE, Integer.MAX_VALUE};
        for (int n : wrong) {
            Check.fails("tick(" + n + ")", IllegalArgumentException.class, () -> lab.x.tick(n));
        }
        Check.same("TIME", lab.x.count(1), 0);
        Check.same("frames", lab.sent(), 1);
    }

    private static void timeGoesOn() {
        Lab lab = new Lab();
        Check.same("tick(0)", lab.x.tick(0), 0);
        Check.same("TIME", lab.x.count(1), 0);
        lab.x.tick(5);
        lab.x.tick(100000);
        Check.same("TIME", lab.x.count(1), 100005);
    }

    private static void synAgain() {
        Lab lab = new Lab();
        Peer p = new Peer(lab, 0x0a000102, 5, 1);
        lab.x.tick(500);
        p.say(Frames.SYN, 1, 0, "");
        int[] times = {1000, 2000, 4000, 8000, 16000, 16000};
        int[] timeouts = {2000, 4000, 8000, 16000, 16000, 16000};
        int time = 500;
        for (int i = 0; i < 6; i++) {
            Check.same("just before", lab.x.tick(times[i] - 1), 0);
            Check.same("its time", lab.x.tick(1), 1);
            time += times[i];
            Check.same("the SYN again", lab.lastSegment(), "SA 100000 2 2048 options 2040218");
            Check.same("TRIES", p.look(9), i + 1);
            Check.same("TIMEOUT", p.look(10), timeouts[i]);
            Check.same("TIMER", p.look(11), time + timeouts[i]);
            Check.same("SPAN", p.look(5), 536);
            Check.same("LIMIT", p.look(6), 1072);
        }
        Check.same("the 7th", lab.x.tick(16000), 1);
        Check.same("RST alone", lab.lastSegment(), "R 100001 0 0");
        Check.yes("it is gone", !p.isThere());
        Check.same("nothing more", lab.x.tick(100000), 0);
    }

    private static void dataAgain() {
        Lab lab = new Lab();
        lab.page("/", Frames.fill(1500, 'p'));
        Peer p = Peer.open(lab, 5, 300, 4000);
        p.send("GET / HTTP/1.0\r\n\r\n");
        p.acknowledge(600);
        p.acknowledge(100);
        Check.same("what flies", p.look(3) - p.look(2), 861);
        Check.same("its time", lab.x.tick(1000), 1);
        Check.same("up to MSS bytes again", lab.lastSegment(), "A 100701 1019 2048 300");
        Check.same("LIMIT", p.look(6), 600);
        Check.same("SPAN", p.look(5), 300);
        Check.same("its time again", lab.x.tick(2000), 1);
        Check.same("the same", lab.lastSegment(), "A 100701 1019 2048 300");
        Check.same("some acknowledged", p.acknowledge(700), 0);
        Check.same("TRIES", p.look(9), 0);
        Check.same("TIMEOUT", p.look(10), 1000);
        Check.same("its time", lab.x.tick(1000), 1);
        Check.same("the rest, with PSH and FIN", lab.lastSegment(), "FPA 101401 1019 2048 160");
        p.acknowledge(160);
        Check.same("its time", lab.x.tick(1000), 1);
        Check.same("FIN alone", lab.lastSegment(), "FA 101561 1019 2048");
        lab.x.tick(100000);
        Check.same("RST alone", lab.lastSegment(), "R 101562 0 0");
    }

    private static void finAgain() {
        Lab lab = new Lab();
        Peer p = Peer.open(lab, 5, 536, 0);
        p.fin();
        Check.same("7 frames in all", lab.x.tick(63000), 7);
        for (int k = 1; k < 7; k++) {
            Check.same("FIN though the window is 0", lab.segment(lab.sent() - 1 - k), "FA 100001 1002 2048");
        }
        Check.same("RST at last", lab.lastSegment(), "R 100002 0 0");
        Check.same("it is gone", lab.x.count(2), 0);
    }

    private static void probes() {
        Lab lab = new Lab();
        lab.page("/", "page");
        Peer p = Peer.open(lab, 5, 536, 0);
        p.send("GET / HTTP/1.0\r\n\r\n");
        Check.same("TIMER", p.look(11), 1000);
        int[] timeouts = {2000, 4000, 8000, 16000, 16000, 16000, 16000, 16000, 16000};
        int wait = 1000;
        for (int timeout : timeouts) {
            Check.same("a probe", lab.x.tick(wait), 1);
            Check.same("its first byte", lab.lastSegment(), "A 100001 1019 2048 1");
            Check.same("the next to be sent", p.look(3), 100002);
            Check.same("TRIES", p.look(9), 0);
            Check.same("TIMEOUT", p.look(10), timeout);
            Check.same("SPAN", p.look(5), 1072);
            wait = timeout;
        }
        p.acknowledge(0);
        p.acknowledge(0);
        Check.same("the third double", p.acknowledge(0), 1);
        Check.same("what was sent again", lab.lastSegment(), "A 100001 1019 2048 1");
        p.window = 10;
        Check.same("open, not acknowledged", p.acknowledge(0), 1);
        Check.same("what fits", lab.lastSegment(), "A 100002 1019 2048 9");
        Check.same("acknowledged", p.acknowledge(10), 1);
        Check.same("TIMEOUT", p.look(10), 1000);
    }

    private static void probeOfTheLastByte() {
        Lab lab = new Lab();
        Peer p = Peer.open(lab, 5, 536, 65);
        p.send("bad\r\n\r\n");
        Check.same("all but the last byte", lab.lastSegment(), "A 100001 1008 2048 65");
        p.window = 0;
        p.acknowledge(65);
        Check.same("its time", lab.x.tick(1000), 1);
        Check.same("the last byte without FIN", lab.lastSegment(), "PA 100066 1008 2048 1");
        Check.same("the next to be sent", p.look(3), 100067);
        Check.same("any segment then", p.acknowledge(0), 1);
        Check.same("FIN alone", lab.lastSegment(), "FA 100067 1008 2048");
        Check.same("its time", lab.x.tick(2000), 1);
        Check.same("the byte alone, for the window is 0", lab.lastSegment(), "PA 100066 1008 2048 1");
        p.acknowledge(1);
        Check.same("its time", lab.x.tick(1000), 1);
        Check.same("FIN again", lab.lastSegment(), "FA 100067 1008 2048");
        Check.same("TRIES", p.look(9), 1);
    }

    /** The earliest first; of one time, by when the connections were made. */
    private static void order() {
        Lab lab = new Lab();
        Peer a = new Peer(lab, 0x0a000102, 1, 1);
        Peer b = new Peer(lab, 0x0a000102, 2, 1);
        Peer c = new Peer(lab, 0x0a000102, 3, 1);
        a.say(Frames.SYN, 1, 0, "");
        b.say(Frames.SYN, 1, 0, "");
        a.say(Frames.RST, 2, 0, "");
        lab.x.tick(1);
        c.say(Frames.SYN, 1, 0, "");
        a.say(Frames.SYN, 1, 0, "");
        int k = lab.sent();
        Check.same("three twice", lab.x.tick(3000), 6);
        int[] ports = {2, 3, 1, 2, 3, 1};
        for (int i = 0; i < 6; i++) {
            Check.same("port of frame " + i, Frames.number(lab.frame(k + i), 36, 2), ports[i]);
        }
    }

    private static void inOneTickOrMany() {
        Lab one = new Lab();
        Lab many = new Lab();
        for (Lab lab : new Lab[] {one, many}) {
            lab.page("/", Frames.fill(700, 'q'));
            Peer.open(lab, 1).send("GET / HTTP/1.1\r\n\r\n");
            Peer.open(lab, 2, 100, 0).send("GET / HTTP/1.1\r\n\r\n");
            lab.givePacket(0x0a000102, Frames.ip(0x0a000102, 1, 0x2000, 1, new byte[8]));
        }
        int frames = one.x.tick(70000);
        for (int i = 0; i < 700; i++) {
            frames -= many.x.tick(100);
        }
        Check.same("as many frames", frames, 0);
        Check.same("as many in all", one.sent(), many.sent());
        for (int k = 0; k < one.sent(); k++) {
            Check.same("frame " + k, Frames.text(one.frame(k)), Frames.text(many.frame(k)));
        }
        for (int what = 0; what < 8; what++) {
            Check.same("count(" + what + ")", one.x.count(what), many.x.count(what));
        }
        Check.same("one is gone by RST, one is probed", one.x.count(2), 1);
    }

    private static void acknowledgedBetween() {
        Lab lab = new Lab();
        lab.page("/", "page");
        Peer p = Peer.open(lab, 5);
        p.send("GET / HTTP/1.1\r\n\r\n");
        lab.x.tick(999);
        int length = p.look(8);
        p.acknowledge(length - 1);
        Check.same("TIMER anew", p.look(11), 1999);
        Check.same("not at the old time", lab.x.tick(999), 0);
        p.acknowledge(1);
        Check.same("no TIMER", p.look(11), -1);
        Check.same("nothing then", lab.x.tick(100000), 0);
        Check.same("it stays", p.look(0), 2);
    }
}
