/** The boundary cases of the TIMER and of tick, sentence by sentence. */
public final class TimeEdgesTest {
    private static final int HIM = 0x0a000102;
    private static final String GET = "GET / HTTP/1.1\r\n\r\n";
    private static final int[] WAITS = {1000, 2000, 4000, 8000, 16000, 16000, 16000};

    public static void main(String[] args) {
        from0To100000();
        atItsTimeAndNotBefore();
        timeoutUpTo16000();
        seventhTry();
        triesOfData();
        triesOfAFin();
        probesHaveNoTries();
        probesInState2Only();
        firstByteAgainOrForTheFirstTime();
        probeOfTheLastByte();
        spanAndLimit();
        upToMssBytesAgain();
        finThatIsTheNext();
        finThatWasNotSent();
        doublesAfterATimer();
        earliestFirst();
        gatheringsBeforeConnections();
        byWhenTheyWereMade();
        doneAtItsTime();
        framesOfATick();
        Check.end();
    }

    private static Lab lab() {
        Lab lab = new Lab();
        lab.page("/", Frames.fill(1500, 'p'));
        return lab;
    }

    /** "TIME goes on by n (0 to 100000)", "IllegalArgumentException for another n". */
    private static void from0To100000() {
        Lab lab = lab();
        int time = 0;
        for (int n : new int[] {0, 1, 0, 99999, 100000, 100000}) {
            Check.same("tick(" + n + ")", lab.x.tick(n), 0);
            time += n;
            Check.same("TIME", lab.x.count(1), time);
        }
        for (int n : new int[] {-1, 100001, -100000, Integer.MIN_VALUE, Integer.MAX_VALUE}) {
            Check.fails("tick(" + n + ")", IllegalArgumentException.class, () -> lab.x.tick(n));
            Check.same("TIME", lab.x.count(1), time);
        }
        Lab late = lab();
        for (int i = 0; i < 500; i++) {
            late.x.tick(100000);
        }
        Check.same("TIME at the end of all calls", late.x.count(1), 50000000);
        new Peer(late, HIM, 5, 1).say(Frames.SYN, 1, 0, "");
        Check.same("a TIMER then", late.x.connection(HIM, 5, 11), 50001000);
    }

    /** "all whose time has come [...] is done". */
    private static void atItsTimeAndNotBefore() {
        Lab lab = lab();
        new Peer(lab, HIM, 5, 1).say(Frames.SYN, 1, 0, "");
        Check.same("no time", lab.x.tick(0), 0);
        Check.same("one before", lab.x.tick(999), 0);
        Check.same("no time", lab.x.tick(0), 0);
        Check.same("its time", lab.x.tick(1), 1);
        Check.same("not twice", lab.x.tick(0), 0);
        Check.same("one before", lab.x.tick(1999), 0);
        Check.same("one behind", lab.x.tick(2), 1);
        Check.same("TIMER is by its time", lab.x.connection(HIM, 5, 11), 3000 + 4000);
    }

    /** "TIMEOUT is doubled (16000 at most)": by tries and by probes. */
    private static void timeoutUpTo16000() {
        Lab lab = lab();
        Peer syn = new Peer(lab, HIM, 5, 1);
        syn.say(Frames.SYN, 1, 0, "");
        Peer shut = Peer.open(lab, 6, 536, 0);
        shut.send(GET);
        int time = 0;
        for (int i = 0; i < 6; i++) {
            Check.same("both", lab.x.tick(WAITS[i]), 2);
            time += WAITS[i];
            Check.same("TIMEOUT of the SYN", syn.look(10), WAITS[i + 1]);
            Check.same("TIMER of the SYN", syn.look(11), time + WAITS[i + 1]);
            Check.same("TIMEOUT of the probe", shut.look(10), WAITS[i + 1]);
            Check.same("TIMER of the probe", shut.look(11), time + WAITS[i + 1]);
        }
    }

    /** "Else TRIES one more; with the 7th RST alone (number: the next one to be sent) is sent". */
    private static void seventhTry() {
        Lab lab = lab();
        Peer p = new Peer(lab, HIM, 5, 1);
        p.say(Frames.SYN, 1, 0, "");
        for (int i = 0; i < 6; i++) {
            Check.same("just before", lab.x.tick(WAITS[i] - 1), 0);
            Check.same("try " + (i + 1), lab.x.tick(1), 1);
            Check.same("TRIES", p.look(9), i + 1);
            Check.same("the SYN", lab.lastSegment(), "SA 100000 2 2048 options 2040218");
        }
        Check.same("just before", lab.x.tick(15999), 0);
        Check.same("it is there", p.look(9), 6);
        Check.same("the 7th", lab.x.tick(1), 1);
        Check.same("RST alone", lab.lastSegment(), "R 100001 0 0");
        Check.same("it is gone", lab.x.count(2), 0);
        Check.same("no 8th", lab.x.tick(100000), 0);
    }

    private static void triesOfData() {
        Lab lab = lab();
        Peer p = Peer.open(lab, 5, 100, 4000);
        p.send(GET);
        Check.same("six times", lab.x.tick(62999), 6);
        Check.same("TRIES", p.look(9), 6);
        p.acknowledge(1);
        Check.same("TRIES are 0", p.look(9), 0);
        Check.same("six times more", lab.x.tick(62999), 6);
        p.acknowledge(0);
        Check.same("not by the same again", p.look(9), 6);
        Check.same("the next to be sent", p.look(3), 100202);
        Check.same("the 7th", lab.x.tick(1), 1);
        Check.same("RST alone, its number is the next", lab.lastSegment(), "R 100202 0 0");
    }

    private static void triesOfAFin() {
        Lab lab = lab();
        Peer p = Peer.open(lab, 5, 100, 0);
        p.fin();
        Check.same("six times", lab.x.tick(62999), 6);
        Check.same("FIN", lab.lastSegment(), "FA 100001 1002 2048");
        Check.same("the 7th", lab.x.tick(1), 1);
        Check.same("RST behind the FIN", lab.lastSegment(), "R 100002 0 0");
    }

    /** "in state 2 with a window of 0 and bytes in the OUTBOX the first of them is sent". */
    private static void probesHaveNoTries() {
        Lab lab = lab();
        Peer p = Peer.open(lab, 5, 100, 0);
        p.send(GET);
        Check.same("many", lab.x.tick(100000) + lab.x.tick(100000) + lab.x.tick(100000), 4 + 17);
        Check.same("TRIES", p.look(9), 0);
        Check.same("SPAN", p.look(5), 200);
        Check.same("LIMIT", p.look(6), 65535);
        Check.same("the next to be sent", p.look(3), 100002);
        Check.same("a probe", lab.lastSegment(), "A 100001 1019 2048 1");
    }

    private static void probesInState2Only() {
        Lab lab = lab();
        Peer p = new Peer(lab, HIM, 5, 1);
        p.window = 0;
        p.say(Frames.SYN, 1, 0, "");
        lab.x.tick(1000);
        Check.same("a SYN of a window of 0", lab.lastSegment(), "SA 100000 2 2048 options 2040218");
        Check.same("TRIES", p.look(9), 1);
        Peer q = Peer.open(lab, 6, 100, 1);
        q.send(GET);
        lab.x.tick(1000);
        Check.same("a window of 1 is no probe", q.look(9), 1);
    }

    /** "(again, or for the first time: ACK". */
    private static void firstByteAgainOrForTheFirstTime() {
        Lab lab = lab();
        Peer p = Peer.open(lab, 5, 100, 150);
        p.send(GET);
        p.window = 0;
        p.acknowledge(0);
        lab.x.tick(1000);
        Check.same("again", lab.lastSegment(), "A 100001 1019 2048 1");
        Check.same("no byte more", p.look(3), 100151);
        Check.same("TRIES", p.look(9), 0);
        p.acknowledge(150);
        Check.same("all acknowledged", p.look(11), 2000);
        lab.x.tick(1000);
        Check.same("for the first time", lab.lastSegment(), "A 100151 1019 2048 1");
        Check.same("a byte more", p.look(3), 100152);
        lab.x.tick(2000);
        Check.same("again", lab.lastSegment(), "A 100151 1019 2048 1");
        Check.same("no byte more", p.look(3), 100152);
    }

    /** "PSH if it is the last one there". */
    private static void probeOfTheLastByte() {
        for (int left = 1; left <= 2; left++) {
            Lab lab = lab();
            Peer p = Peer.open(lab, 5, 536, 54 - left);
            p.send("A / HTTP/1.1\r\n\r\n");
            p.window = 0;
            p.acknowledge(54 - left);
            lab.x.tick(1000);
            Check.same(left + " left", lab.lastSegment(), (left == 1 ? "PA " : "A ") + (100055 - left) + " 1017 2048 1");
            lab.x.tick(2000);
            Check.same("again", lab.lastSegment(), (left == 1 ? "PA " : "A ") + (100055 - left) + " 1017 2048 1");
        }
    }

    /** "LIMIT is half of what is not acknowledged, at least 2 MSS, SPAN is MSS". */
    private static void spanAndLimit() {
        for (int mss : new int[] {64, 100, 536}) {
            Lab lab = lab();
            Peer p = Peer.open(lab, 5, mss, 4000);
            p.send(GET);
            for (int i = 0; i < 4; i++) {
                lab.x.tick(WAITS[i]);
                Check.same("SPAN", p.look(5), mss);
                Check.same("LIMIT", p.look(6), 2 * mss);
            }
        }
    }

    /** "up to MSS bytes that were sent". */
    private static void upToMssBytesAgain() {
        for (int window : new int[] {1, 99, 100, 101}) {
            Lab lab = lab();
            Peer p = Peer.open(lab, 5, 100, window);
            p.send(GET);
            lab.x.tick(1000);
            Check.same("of " + window, lab.lastSegment(), "A 100001 1019 2048 " + Math.min(window, 100));
            Check.same("the next to be sent", p.look(3), 100001 + window);
        }
    }

    /** "with FIN if that was sent and is the next; or the FIN". */
    private static void finThatIsTheNext() {
        int[] acknowledged = {0, 1, 2, 3, 64, 65, 66};
        String[] due = {"A 100001 1008 2048 64", "A 100002 1008 2048 64", "FPA 100003 1008 2048 64",
            "FPA 100004 1008 2048 63", "FPA 100065 1008 2048 2", "FPA 100066 1008 2048 1", "FA 100067 1008 2048"};
        for (int i = 0; i < due.length; i++) {
            Lab lab = lab();
            Peer p = Peer.open(lab, 5, 64, 4000);
            p.send("bad\r\n\r\n");
            p.acknowledge(acknowledged[i]);
            lab.x.tick(1000);
            Check.same(acknowledged[i] + " acknowledged", lab.lastSegment(), due[i]);
        }
    }

    private static void finThatWasNotSent() {
        Lab lab = lab();
        Peer p = Peer.open(lab, 5, 536, 65);
        p.send("bad\r\n\r\n");
        lab.x.tick(1000);
        Check.same("it ends, but FIN was not sent", lab.lastSegment(), "A 100001 1008 2048 65");
    }

    /** "DOUBLES 0". */
    private static void doublesAfterATimer() {
        for (int n = 0; n <= 2; n++) {
            Lab lab = lab();
            Peer p = Peer.open(lab, 5, 100, 4000);
            p.send(GET);
            for (int i = 0; i < n; i++) {
                p.acknowledge(0);
            }
            lab.x.tick(1000);
            Check.same("two behind it", p.acknowledge(0) + p.acknowledge(0), 0);
            Check.same("the third", p.acknowledge(0), 1);
        }
    }

    private static long port(Lab lab, int k) {
        return Frames.number(lab.frame(k), 36, 2);
    }

    /** "(the earliest first". */
    private static void earliestFirst() {
        Lab lab = lab();
        Peer a = Peer.open(lab, 1);
        Peer b = Peer.open(lab, 2);
        lab.x.tick(1);
        b.send(GET);
        lab.x.tick(1);
        a.send(GET);
        int k = lab.sent();
        Check.same("both", lab.x.tick(1000), 2);
        Check.same("the earlier", port(lab, k), 2);
        Check.same("the later", port(lab, k + 1), 1);
        Check.same("the earlier again, the later not yet", lab.x.tick(1999), 1);
        Check.same("the earlier", port(lab, k + 2), 2);
        Check.same("the later", lab.x.tick(1), 1);
        Check.same("the later", port(lab, k + 3), 1);
    }

    /** "of one time GATHERINGS, then CONNECTIONS": both are done, and neither twice. */
    private static void gatheringsBeforeConnections() {
        Lab lab = lab();
        lab.givePacket(HIM, Frames.ip(HIM, 1, 0x2000, 1, new byte[8]));
        lab.x.tick(29000);
        Peer p = new Peer(lab, HIM, 5, 1);
        p.say(Frames.SYN, 1, 0, "");
        lab.givePacket(HIM, Frames.ip(HIM, 2, 0x2000, 1, new byte[8]));
        Check.same("of one time", lab.x.tick(1000), 1);
        Check.same("the gathering", lab.x.count(5), 1);
        Check.same("the connection", p.look(9), 1);
        Check.same("up to the other's time", lab.x.tick(28999), 3);
        Check.same("the other gathering", lab.x.count(5), 1);
        Check.same("its time", lab.x.tick(1), 0);
        Check.same("no gathering", lab.x.count(5), 0);
    }

    /** "CONNECTIONS by when they were made". */
    private static void byWhenTheyWereMade() {
        Lab lab = lab();
        for (int port = 8; port >= 1; port--) {
            Peer.open(lab, port);
        }
        for (int port = 1; port <= 8; port++) {
            new Peer(lab, HIM, port, 1).say(Frames.ACK, 1001, lab.x.connection(HIM, port, 2), GET);
        }
        new Peer(lab, HIM, 5, 1).say(Frames.RST, 1019, 0, "");
        Peer.open(lab, 5).send(GET);
        int k = lab.sent();
        Check.same("all eight", lab.x.tick(1000), 8);
        int[] due = {8, 7, 6, 4, 3, 2, 1, 5};
        for (int i = 0; i < 8; i++) {
            Check.same("frame " + i, port(lab, k + i), due[i]);
        }
    }

    /** "is done at its time": one long tick does the same as many short ones. */
    private static void doneAtItsTime() {
        int[] steps = {1, 7, 250, 1000, 99999};
        String due = "";
        for (int step : steps) {
            Lab lab = lab();
            new Peer(lab, HIM, 1, 1).say(Frames.SYN, 1, 0, "");
            lab.x.tick(3);
            Peer.open(lab, 2).send(GET);
            Peer.open(lab, 3, 64, 0).send(GET);
            Peer.leaving(lab, 4, 1000, 2000);
            lab.givePacket(HIM, Frames.ip(HIM, 1, 0x2000, 1, new byte[8]));
            while (lab.x.count(1) < 100002) {
                lab.x.tick(Math.min(step, 100002 - lab.x.count(1)));
            }
            String got = Sight.of(lab);
            if (due.isEmpty()) {
                due = got;
                Check.same("one probed is left", lab.x.count(2), 1);
            }
            Check.same("by steps of " + step, got, due);
        }
    }

    /** "how many frames were sent by that": not those before, nor packets without a NEIGHBOUR. */
    private static void framesOfATick() {
        Lab lab = lab();
        Check.same("none", lab.x.tick(100000), 0);
        for (int port = 1; port <= 8; port++) {
            new Peer(lab, HIM, port, 1).say(Frames.SYN, 1, 0, "");
        }
        Check.same("eight times seven", lab.x.tick(100000), 56);
        Check.same("all are gone", lab.x.count(2), 0);
        Check.same("none", lab.x.tick(100000), 0);
        Check.same("frames", lab.sent(), 64);
    }
}
