/** The other end of a connection: it says what a test makes it say, right or wrong. */
final class Peer {
    final Lab lab;
    final int address;
    final int port;
    int number;
    int ours;
    int window = 4000;

    Peer(Lab lab, int address, int port, int first) {
        this.lab = lab;
        this.address = address;
        this.port = port;
        this.number = first;
    }

    /** A peer whose connection is open, with an MSS of 536. */
    static Peer open(Lab lab, int port) {
        Peer p = new Peer(lab, 0x0a000102, port, 1000);
        p.connect(new byte[0]);
        return p;
    }

    static Peer open(Lab lab, int port, int mss, int window) {
        Peer p = new Peer(lab, 0x0a000102, port, 1000);
        p.window = window;
        p.connect(Frames.join(Frames.number(0x0204, 2), Frames.number(mss, 2)));
        return p;
    }

    /** A peer whose connection is open and whose next byte has the number behind a first one. */
    static Peer from(Lab lab, int port, int first) {
        Peer p = new Peer(lab, 0x0a000102, port, first);
        p.connect(new byte[0]);
        return p;
    }

    /** A peer in state 3, where what comes stays in the INBOX: so WINDOW can be made any number. */
    static Peer leaving(Lab lab, int port, int first, int room) {
        Peer p = from(lab, port, first);
        p.send("bad\r\n\r\n");
        p.acknowledge(p.look(3) - p.ours);
        int rest = 2048 - room;
        while (rest > 0) {
            int n = Math.min(rest, 1000);
            p.send("x".repeat(n));
            rest -= n;
        }
        return p;
    }

    private void connect(byte[] options) {
        say(Frames.SYN, number, 0, options, new byte[0]);
        number++;
        ours = 100000 * lab.x.count(3) + 1;
        say(Frames.ACK, number, ours, new byte[0], new byte[0]);
    }

    int say(int flags, int seq, int ack, byte[] options, byte[] data) {
        return sayTo(80, flags, seq, ack, options, data);
    }

    int sayTo(int to, int flags, int seq, int ack, byte[] options, byte[] data) {
        byte[] tcp = Frames.tcp(address, new int[] {port, to}, new int[] {seq, ack}, flags, window, options, data);
        return lab.givePacket(address, Frames.ip(address, 7, 0, 6, tcp));
    }

    int say(int flags, int seq, int ack, String data) {
        return say(flags, seq, ack, new byte[0], Frames.text(data));
    }

    /** The next bytes in their order, acknowledging what was acknowledged last. */
    int send(String data) {
        int frames = say(Frames.ACK, number, ours, data);
        number += data.length();
        return frames;
    }

    int fin() {
        int frames = say(Frames.ACK | Frames.FIN, number, ours, "");
        number++;
        return frames;
    }

    /** Acknowledges n more of our numbers. */
    int acknowledge(int n) {
        ours += n;
        return say(Frames.ACK, number, ours, "");
    }

    int look(int what) {
        return lab.x.connection(address, port, what);
    }

    boolean isThere() {
        try {
            look(0);
            return true;
        } catch (java.util.NoSuchElementException e) {
            return false;
        }
    }
}
