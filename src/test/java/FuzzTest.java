import java.util.Random;

/**
 * Runs of calls drawn by chance (of a fixed seed): no call throws what its promise does not name,
 * a call that throws changes nothing, the same calls give the same answers, and every frame that
 * is sent is sound.
 */
public final class FuzzTest {
    private static final int RUNS = 400;
    private static final int CALLS = 512;
    private static final String[] TEXTS = {"GET / HTTP/1.1\r\n\r\n", "GET /a HTTP/1.1\r\n", "Connection: close\r\n",
        "\r\n", "GET /none HTTP/1.0\r\n\r\n", "POST / HTTP/1.1\r\n\r\n", "bad\r\n\r\n", "x", "xxxxxxxxxxxxxxxxxxxx"};

    public static void main(String[] args) {
        for (int run = 0; run < RUNS; run++) {
            long once = play(run);
            if (run % 8 == 0) {
                Check.same("run " + run + " once more", play(run), once);
            }
        }
        Check.end();
    }

    private static long play(int run) {
        Random r = new Random(run);
        Lab lab = new Lab();
        long trace = 0;
        int checked = 0;
        for (int i = 0; i < CALLS; i++) {
            long before = look(lab);
            long answer;
            try {
                answer = call(lab, r);
            } catch (IllegalStateException | IllegalArgumentException | IndexOutOfBoundsException
                    | java.util.NoSuchElementException e) {
                StackTraceElement at = e.getStackTrace()[0];
                Check.same("thrown in " + at, at.getClassName(), "UnikernelHttp");
                Check.yes(e + " by a throw of the face: " + at, isDue(at.getMethodName(), e));
                Check.same("run " + run + " call " + i + " threw and changed", look(lab), before);
                answer = e.getClass().getName().length();
            }
            trace = trace * 31 + answer;
            for (; checked < lab.sent(); checked++) {
                sound(lab, checked);
            }
        }
        return trace * 31 + look(lab);
    }

    /** Whether the promise of a method names just this exception. */
    private static boolean isDue(String method, RuntimeException e) {
        switch (e.getClass().getSimpleName()) {
            case "IllegalStateException": return method.equals("feed") || method.equals("page");
            case "IndexOutOfBoundsException": return "damage size bytes".contains(method);
            case "NoSuchElementException": return method.equals("connection");
            case "IllegalArgumentException": return "cut arrive page tick count connection".contains(method);
            default: return false;
        }
    }

    private static long look(Lab lab) {
        long sum = 0;
        for (int what = 0; what < 8; what++) {
            sum = sum * 31 + lab.x.count(what);
        }
        for (int port = 1; port <= 10; port++) {
            for (int what = 0; what < 12; what++) {
                try {
                    sum = sum * 31 + lab.x.connection(0x0a000102, port, what);
                } catch (java.util.NoSuchElementException e) {
                    sum++;
                }
            }
        }
        return sum;
    }

    private static void sound(Lab lab, int k) {
        byte[] f = lab.frame(k);
        long type = Frames.number(f, 12, 2);
        if (type == 0x0806) {
            Check.same("an ARP answer", f.length, 42);
        } else if (f[23] == 6) {
            Check.yes("a sound segment: " + lab.segment(k), !lab.segment(k).contains("bad"));
        } else {
            Check.same("an echo's sum", Frames.sum(Frames.part(f, 34, f.length)), 0);
        }
    }

    private static long call(Lab lab, Random r) {
        switch (r.nextInt(16)) {
            case 0: return lab.x.feed(r.nextInt(), r.nextInt(), r.nextInt(), r.nextInt(), r.nextInt());
            case 1: return lab.x.cut(odd(r));
            case 2: return lab.x.arrive();
            case 3: return lab.x.page(odd(r));
            case 4: return lab.x.damage(odd(r), odd(r), odd(r));
            case 5: return lab.x.tick(r.nextBoolean() ? odd(r) : r.nextInt(3000));
            case 6: return lab.x.size(odd(r)) + lab.x.bytes(odd(r), odd(r));
            case 7: return lab.x.count(odd(r));
            case 8: return lab.x.connection(0x0a000102, r.nextInt(10), odd(r));
            case 9: lab.x.cut(0);
                return lab.page(r.nextBoolean() ? "/" : "/a", Frames.fill(r.nextInt(1400), 'p'));
            case 10: lab.x.cut(0);
                return lab.givePacket(0x0a000102, piece(r));
            default: lab.x.cut(0);
                return segment(lab, r);
        }
    }

    private static int odd(Random r) {
        switch (r.nextInt(5)) {
            case 0: return r.nextInt();
            case 1: return r.nextInt(2) == 0 ? Integer.MIN_VALUE : Integer.MAX_VALUE;
            case 2: return r.nextInt(200001) - 10;
            default: return r.nextInt(40) - 3;
        }
    }

    private static byte[] piece(Random r) {
        byte[] body = Frames.icmp(8, 0, Frames.fill(8 * r.nextInt(8) + 4, 7));
        int place = r.nextInt(3) == 0 ? r.nextInt(0x4000) : r.nextInt(20) | r.nextInt(2) << 13;
        return Frames.ip(0x0a000102, r.nextInt(6), place, r.nextInt(4) == 0 ? 6 : 1, body);
    }

    private static long segment(Lab lab, Random r) {
        Peer p = new Peer(lab, 0x0a000102, 1 + r.nextInt(9), 0);
        p.window = r.nextInt(3) == 0 ? r.nextInt(3) : r.nextInt(5000);
        if (!p.isThere()) {
            byte[] mss = Frames.join(Frames.number(0x0204, 2), Frames.number(r.nextInt(600), 2));
            return p.say(r.nextInt(9) == 0 ? r.nextInt(64) : Frames.SYN, r.nextInt(), 0, mss, new byte[0]);
        }
        int flags = r.nextInt(12) == 0 ? r.nextInt(64) : Frames.ACK | (r.nextInt(12) == 0 ? Frames.FIN : 0);
        int flies = p.look(3) - p.look(2);
        int seq = p.look(1) + (r.nextInt(4) == 0 ? r.nextInt(2100) - 30 : 0);
        int ack = p.look(0) == 1 ? p.look(3) : p.look(2) + (flies > 0 ? r.nextInt(flies + 1) : 0);
        ack = r.nextInt(20) == 0 ? r.nextInt() : ack;
        StringBuilder data = new StringBuilder();
        for (int i = r.nextInt(4); i > 0; i--) {
            data.append(TEXTS[r.nextInt(TEXTS.length)]);
        }
        if (r.nextInt(12) == 0) {
            data.append("y".repeat(r.nextInt(1300)));
        }
        return p.say(flags, seq, ack, data.toString());
    }
}
