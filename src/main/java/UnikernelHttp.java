import java.util.Arrays;
import java.util.NoSuchElementException;

/** A server that is its own system, from frames of Ethernet to pages. */
public final class UnikernelHttp {
    private static final int ROW_MOST = 2000;
    private static final int FRAME_MOST = 1518;
    private static final int FRAMES_KEPT = 64;
    private static final int WORDS_MOST = 200;
    private static final int TICK_MOST = 100000;
    /** Far above what eight connections and four gatherings can have to do within one tick. */
    private static final int EVENTS_MOST = 10000;
    private static final int NEVER = Integer.MAX_VALUE;

    private static final long MY_HARDWARE = 0x020000000001L;
    private static final long ALL_HARDWARE = 0xffffffffffffL;
    private static final int MY_ADDRESS = 0x0a000001;
    private static final int ARP = 0x0806;
    private static final int IPV4 = 0x0800;
    private static final int ETHERNET_HEADER = 14;
    private static final int IP_HEADER = 20;
    private static final int ARP_LENGTH = 42;
    private static final int ICMP = 1;
    private static final int ICMP_MOST = 1484;
    private static final int TCP = 6;
    private static final int TCP_HEADER = 20;

    private static final int FIN = 1;
    private static final int SYN = 2;
    private static final int RST = 4;
    private static final int PSH = 8;
    private static final int ACK = 16;

    private static final int NEIGHBOURS_MOST = 16;
    private static final int GATHERINGS_MOST = 4;
    private static final int GATHERING_BYTES = 4096;
    private static final int GATHERING_LIFE = 30000;

    private static final int HTTP_PORT = 80;
    private static final int CONNECTIONS_MOST = 8;
    private static final int OPENING = 1;
    private static final int OPEN = 2;
    private static final int LEAVING = 3;
    private static final int LEAVING_TIME = 60000;
    private static final int MSS_LEAST = 64;
    private static final int MSS_MOST = 536;
    private static final int INBOX_MOST = 2048;
    private static final int OUTBOX_MOST = 4096;
    private static final int FIRST_LIMIT = 65535;
    private static final int FIRST_TIMEOUT = 1000;
    private static final int TIMEOUT_MOST = 16000;
    private static final int TRIES_MOST = 7;
    private static final int DOUBLES_TOLD = 3;

    private static final int REQUEST_MOST = 512;
    private static final int PAGES_MOST = 32;
    private static final int TARGET_MOST = 64;
    private static final int PAGE_MOST = 1500;
    private static final int ANSWER_MOST = PAGE_MOST + 200;

    private final byte[] row;
    private int rowLength;
    private int time;
    private final Neighbours neighbours;
    private final Wire wire;
    private final Gatherings gatherings;
    private final Segment segment;
    private final Tcp tcp;
    private final Store store;
    private final Http http;
    private final byte[] echo;
    /** The datagram that has come: in ROW itself, or in the gathering that was filled. */
    private byte[] datagram;
    private int datagramAt;
    private int datagramLength;

    public UnikernelHttp() {
        row = new byte[ROW_MOST];
        neighbours = new Neighbours();
        wire = new Wire(neighbours);
        gatherings = new Gatherings();
        segment = new Segment();
        tcp = new Tcp(wire);
        store = new Store();
        http = new Http(store);
        echo = new byte[ICMP_MOST];
        datagram = row;
    }

    public int feed(int a, int b, int c, int d, int e) throws IllegalStateException {
        if (rowLength + 20 > ROW_MOST) {
            throw new IllegalStateException();
        }
        putFour(row, rowLength, a);
        putFour(row, rowLength + 4, b);
        putFour(row, rowLength + 8, c);
        putFour(row, rowLength + 12, d);
        putFour(row, rowLength + 16, e);
        rowLength += 20;
        return rowLength;
    }

    public int cut(int n) throws IllegalArgumentException {
        if (n < 0 || n > rowLength) {
            throw new IllegalArgumentException();
        }
        rowLength = n;
        return n;
    }

    public int arrive() throws IllegalArgumentException {
        if (rowLength > FRAME_MOST) {
            throw new IllegalArgumentException();
        }
        int before = wire.sent;
        int length = rowLength;
        rowLength = 0;
        int type = isForMe(length) ? two(row, 12) : 0;
        if (type == ARP) {
            takeArp(length);
        } else if (type == IPV4 && isGoodPacket(length) && fillsDatagram()) {
            int protocol = one(row, 23);
            if (protocol == ICMP) {
                takeEcho();
            } else if (protocol == TCP) {
                takeSegment();
            }
        }
        return wire.sent - before;
    }

    public int page(int n) throws IllegalArgumentException, IllegalStateException {
        boolean fits = n >= 1 && n <= TARGET_MOST && n <= rowLength && rowLength - n <= PAGE_MOST;
        if (!fits || !Store.isTarget(row, n)) {
            throw new IllegalArgumentException();
        }
        if (store.held >= PAGES_MOST) {
            throw new IllegalStateException();
        }
        store.put(row, n, rowLength);
        rowLength = 0;
        return store.held;
    }

    public int damage(int k, int i, int v) throws IndexOutOfBoundsException {
        if (k < 0 || k >= store.held || i < 0 || i >= store.lengths[k]) {
            throw new IndexOutOfBoundsException();
        }
        byte[] content = store.contents[k];
        content[i] = (byte) (content[i] ^ v);
        return content[i] & 255;
    }

    public int tick(int n) throws IllegalArgumentException {
        if (n < 0 || n > TICK_MOST) {
            throw new IllegalArgumentException();
        }
        int before = wire.sent;
        int end = time + n;
        for (int i = 0; i < EVENTS_MOST; i++) {
            int gatheringDue = gatherings.due();
            Connection first = tcp.firstDue();
            int connectionDue = first == null ? NEVER : first.due();
            int due = Math.min(gatheringDue, connectionDue);
            if (due == NEVER || due > end) {
                break;
            }
            time = due;
            if (gatheringDue <= connectionDue) {
                gatherings.drop(0);
            } else if (first != null) {
                tcp.fire(first, time);
            }
        }
        time = end;
        return wire.sent - before;
    }

    public int size(int k) throws IndexOutOfBoundsException {
        if (!wire.keeps(k)) {
            throw new IndexOutOfBoundsException();
        }
        return wire.sizes[Wire.slot(k)];
    }

    public long bytes(int k, int i) throws IndexOutOfBoundsException {
        if (!wire.keeps(k) || i < 0 || i >= WORDS_MOST) {
            throw new IndexOutOfBoundsException();
        }
        return wire.eightBytes(k, 8 * i);
    }

    public int count(int what) throws IllegalArgumentException {
        switch (what) {
            case 0: return wire.sent;
            case 1: return time;
            case 2: return tcp.held;
            case 3: return tcp.made;
            case 4: return neighbours.held;
            case 5: return gatherings.held;
            case 6: return store.held;
            case 7: return wire.made;
            default: throw new IllegalArgumentException();
        }
    }

    public int connection(int address, int port, int what)
            throws NoSuchElementException, IllegalArgumentException {
        Connection c = tcp.find(address, port);
        if (c == null) {
            throw new NoSuchElementException();
        }
        switch (what) {
            case 0: return c.state;
            case 1: return c.inbox.next;
            case 2: return c.outbox.unacked;
            case 3: return c.outbox.sendNext;
            case 4: return c.window;
            case 5: return c.span;
            case 6: return c.limit;
            case 7: return c.inbox.length;
            case 8: return c.outbox.length;
            case 9: return c.tries;
            case 10: return c.timeout;
            case 11: return c.timer;
            default: throw new IllegalArgumentException();
        }
    }

    private boolean isForMe(int length) {
        if (length < ETHERNET_HEADER) {
            return false;
        }
        long target = six(row, 0);
        return target == MY_HARDWARE || target == ALL_HARDWARE;
    }

    private void takeArp(int length) {
        int operation = two(row, 20);
        boolean good = length >= ARP_LENGTH
                && four(row, 14) == 0x00010800
                && two(row, 18) == 0x0604
                && (operation == 1 || operation == 2)
                && four(row, 38) == MY_ADDRESS;
        if (!good) {
            return;
        }
        long hardware = six(row, 22);
        int address = four(row, 28);
        neighbours.hear(address, hardware);
        if (operation == 1) {
            wire.sendArpAnswer(hardware, address);
        }
    }

    private boolean isGoodPacket(int length) {
        int there = length - ETHERNET_HEADER;
        int header = 4 * (one(row, 14) & 15);
        int whole = two(row, 16);
        return there >= IP_HEADER
                && one(row, 14) >> 4 == 4
                && header >= IP_HEADER
                && header <= whole
                && whole <= there
                && isRight(total(row, ETHERNET_HEADER, header))
                && four(row, 30) == MY_ADDRESS;
    }

    /** Whether the good packet in ROW is a datagram, or the piece that makes one whole. */
    private boolean fillsDatagram() {
        int header = 4 * (one(row, 14) & 15);
        int at = ETHERNET_HEADER + header;
        int length = two(row, 16) - header;
        neighbours.hear(four(row, 26), six(row, 6));
        if ((two(row, 20) & 0x3fff) == 0) {
            datagram = row;
            datagramAt = at;
            datagramLength = length;
            return true;
        }
        Gathering whole = gatherings.take(row, at, length, time);
        if (whole == null) {
            return false;
        }
        datagram = whole.content;
        datagramAt = 0;
        datagramLength = whole.told;
        return true;
    }

    private void takeEcho() {
        boolean good = datagramLength >= 8
                && datagramLength <= ICMP_MOST
                && two(datagram, datagramAt) == 0x0800
                && isRight(total(datagram, datagramAt, datagramLength));
        if (!good) {
            return;
        }
        copy(datagram, datagramAt, echo, 0, datagramLength);
        putFour(echo, 0, 0);
        putTwo(echo, 2, sum(total(echo, 0, datagramLength)));
        wire.sendPacket(ICMP, four(row, 26), echo, datagramLength);
    }

    private void takeSegment() {
        int source = four(row, 26);
        if (!segment.read(datagram, datagramAt, datagramLength, source)) {
            return;
        }
        Connection c = segment.toPort == HTTP_PORT ? tcp.find(source, segment.port) : null;
        if (c == null) {
            tcp.takeStranger(segment, time);
        } else if (tcp.accepts(c, segment) && tcp.takes(c, segment, time)) {
            http.serve(c);
            tcp.sendWhatMay(c, segment.length > 0, time);
        }
    }

    // Rows of bytes: what lies outside a row reads as 0 and is not written, so that no index can fail.

    private static int one(byte[] from, int at) {
        return at >= 0 && at < from.length ? from[at] & 255 : 0;
    }

    private static int two(byte[] from, int at) {
        return at >= 0 && at < from.length - 1 ? (from[at] & 255) << 8 | from[at + 1] & 255 : 0;
    }

    private static int four(byte[] from, int at) {
        return two(from, at) << 16 | two(from, at + 2);
    }

    private static long six(byte[] from, int at) {
        return (long) two(from, at) << 32 | four(from, at + 2) & 0xffffffffL;
    }

    private static void putTwo(byte[] to, int at, int value) {
        if (at >= 0 && at < to.length - 1) {
            to[at] = (byte) (value >> 8);
            to[at + 1] = (byte) value;
        }
    }

    private static void putFour(byte[] to, int at, int value) {
        if (at >= 0 && at < to.length - 3) {
            to[at] = (byte) (value >> 24);
            to[at + 1] = (byte) (value >> 16);
            to[at + 2] = (byte) (value >> 8);
            to[at + 3] = (byte) value;
        }
    }

    private static void putSix(byte[] to, int at, long value) {
        for (int i = 0; i < 6; i++) {
            if (at + i >= 0 && at + i < to.length) {
                to[at + i] = (byte) (value >> 40 - 8 * i);
            }
        }
    }

    private static void copy(byte[] from, int at, byte[] to, int place, int length) {
        boolean fits = length > 0
                && at >= 0 && at <= from.length - length
                && place >= 0 && place <= to.length - length;
        if (fits) {
            System.arraycopy(from, at, to, place, length);
        }
    }

    /** The plain sum of the 16-bit numbers of a part of a row, a last odd byte being a high one. */
    private static int total(byte[] from, int at, int length) {
        int total = 0;
        for (int i = 0; i < length; i++) {
            int value = at + i >= 0 && at + i < from.length ? from[at + i] & 255 : 0;
            total += (i & 1) == 0 ? value << 8 : value;
        }
        return total;
    }

    /** The SUM that goes with a plain sum: carries come in again from below, then all bits turn. */
    private static int sum(int total) {
        int once = (total & 0xffff) + (total >>> 16);
        return ~(once + (once >>> 16)) & 0xffff;
    }

    /** Whether a plain sum, with the SUM in it, is that of something undamaged. */
    private static boolean isRight(int total) {
        return sum(total) == 0;
    }

    /** What TCP's sum counts beside the segment: both addresses, the protocol and the length. */
    private static int pseudoTotal(int address, int length) {
        return (MY_ADDRESS >>> 16) + (MY_ADDRESS & 0xffff)
                + (address >>> 16) + (address & 0xffff) + TCP + length;
    }

    /** The hardware addresses of those that were heard. */
    private static final class Neighbours {
        private final int[] addresses = new int[NEIGHBOURS_MOST];
        private final long[] hardware = new long[NEIGHBOURS_MOST];
        private final int[] heard = new int[NEIGHBOURS_MOST];
        private int held;
        private int hearings;

        private void hear(int address, long from) {
            int at = indexOf(address);
            if (at < 0) {
                at = freePlace();
            }
            hearings++;
            addresses[at] = address;
            hardware[at] = from;
            heard[at] = hearings;
        }

        private int indexOf(int address) {
            for (int i = 0; i < held; i++) {
                if (addresses[i] == address) {
                    return i;
                }
            }
            return -1;
        }

        private int freePlace() {
            if (held < NEIGHBOURS_MOST) {
                held++;
                return held - 1;
            }
            int oldest = 0;
            for (int i = 1; i < held; i++) {
                if (heard[i] < heard[oldest]) {
                    oldest = i;
                }
            }
            return oldest;
        }
    }

    /** The frames that were sent, the latest of which are kept. */
    private static final class Wire {
        private final Neighbours neighbours;
        private final byte[] frames = new byte[FRAMES_KEPT * FRAME_MOST];
        private final int[] sizes = new int[FRAMES_KEPT];
        private int sent;
        private int made;

        private Wire(Neighbours neighbours) {
            this.neighbours = neighbours;
        }

        private static int slot(int k) {
            return k & FRAMES_KEPT - 1;
        }

        private boolean keeps(int k) {
            return k >= 0 && k < sent && k >= sent - FRAMES_KEPT;
        }

        private long eightBytes(int k, int from) {
            int at = slot(k) * FRAME_MOST;
            int length = sizes[slot(k)];
            long value = 0;
            for (int i = from; i < from + 8; i++) {
                value = value << 8 | (i < length ? one(frames, at + i) : 0);
            }
            return value;
        }

        private void sendArpAnswer(long hardware, int address) {
            int at = beginFrame(hardware, ARP, ARP_LENGTH);
            putFour(frames, at + 14, 0x00010800);
            putFour(frames, at + 18, 0x06040002);
            putSix(frames, at + 22, MY_HARDWARE);
            putFour(frames, at + 28, MY_ADDRESS);
            putSix(frames, at + 32, hardware);
            putFour(frames, at + 38, address);
        }

        private void sendPacket(int protocol, int address, byte[] body, int length) {
            int number = made;
            made++;
            int neighbour = neighbours.indexOf(address);
            if (neighbour < 0) {
                return;
            }
            int whole = IP_HEADER + length;
            int frame = beginFrame(neighbours.hardware[neighbour], IPV4, ETHERNET_HEADER + whole);
            int at = frame + ETHERNET_HEADER;
            putFour(frames, at, 69 << 24 | whole);
            putTwo(frames, at + 4, number);
            putTwo(frames, at + 6, 0x4000);
            putFour(frames, at + 8, 64 << 24 | protocol << 16);
            putFour(frames, at + 12, MY_ADDRESS);
            putFour(frames, at + 16, address);
            putTwo(frames, at + 10, sum(total(frames, at, IP_HEADER)));
            copy(body, 0, frames, at + IP_HEADER, length);
        }

        private int beginFrame(long to, int type, int length) {
            int at = slot(sent) * FRAME_MOST;
            sizes[slot(sent)] = length;
            sent++;
            putSix(frames, at, to);
            putSix(frames, at + 6, MY_HARDWARE);
            putTwo(frames, at + 12, type);
            return at;
        }
    }

    /** A datagram of which pieces have come. */
    private static final class Gathering {
        private final byte[] content = new byte[GATHERING_BYTES];
        private final byte[] there = new byte[GATHERING_BYTES];
        private int source;
        private int number;
        private int protocol;
        private int begun;
        /** Its length, -1 before the last piece told it. */
        private int told;
        /** Where the farthest byte that is there ends. */
        private int farthest;
        private int filled;

        private void begin(byte[] frame, int now) {
            source = four(frame, 26);
            number = two(frame, 18);
            protocol = one(frame, 23);
            begun = now;
            told = -1;
            farthest = 0;
            filled = 0;
            Arrays.fill(there, (byte) 0);
        }

        private boolean isOf(byte[] frame) {
            return source == four(frame, 26) && number == two(frame, 18) && protocol == one(frame, 23);
        }

        private void keep(byte[] from, int at, int length, int offset) {
            for (int i = 0; i < length && offset + i < GATHERING_BYTES; i++) {
                if (there[offset + i] == 0) {
                    there[offset + i] = 1;
                    content[offset + i] = (byte) one(from, at + i);
                    filled++;
                }
            }
            if (length > 0) {
                farthest = Math.max(farthest, offset + length);
            }
        }
    }

    /** The gatherings, in the order in which they were begun; the objects behind them are spare. */
    private static final class Gatherings {
        private final Gathering[] list = new Gathering[GATHERINGS_MOST];
        private int held;

        private Gatherings() {
            for (int i = 0; i < GATHERINGS_MOST; i++) {
                list[i] = new Gathering();
            }
        }

        private int due() {
            return held > 0 ? list[0].begun + GATHERING_LIFE : NEVER;
        }

        private void drop(int index) {
            if (index < 0 || index >= held) {
                return;
            }
            Gathering gone = list[index];
            for (int i = index; i < held - 1; i++) {
                list[i] = list[i + 1];
            }
            held--;
            list[held] = gone;
        }

        private int indexOf(byte[] frame) {
            for (int i = 0; i < held; i++) {
                if (list[i].isOf(frame)) {
                    return i;
                }
            }
            return -1;
        }

        private int begin(byte[] frame, int now) {
            if (held == GATHERINGS_MOST) {
                drop(0);
            }
            list[held].begin(frame, now);
            held++;
            return held - 1;
        }

        /** Takes the piece at a place of a frame: the gathering that it made whole, or null. */
        private Gathering take(byte[] frame, int at, int length, int now) {
            boolean last = (two(frame, 20) & 0x2000) == 0;
            int offset = 8 * (two(frame, 20) & 0x1fff);
            int index = indexOf(frame);
            if (offset + length > GATHERING_BYTES || !last && length % 8 != 0) {
                drop(index);
                return null;
            }
            if (index < 0) {
                index = begin(frame, now);
            }
            Gathering g = list[index];
            boolean other = last && g.told >= 0 && g.told != offset + length;
            if (last) {
                g.told = offset + length;
            }
            g.keep(frame, at, length, offset);
            boolean beyond = g.told >= 0 && g.farthest > g.told;
            boolean whole = g.filled == g.told;
            if (other || beyond || whole) {
                drop(index);
            }
            return whole && !other && !beyond ? g : null;
        }
    }

    /** A segment of TCP that came. */
    private static final class Segment {
        private byte[] from = new byte[0];
        private int dataAt;
        private int dataLength;
        private int address;
        private int port;
        private int toPort;
        private int number;
        private int acknowledgement;
        private int flags;
        private int window;
        /** LEN: its bytes, and one each for SYN and FIN. */
        private int length;
        private int mss;

        /** Whether a good segment stands there, which is then read. */
        private boolean read(byte[] row, int at, int whole, int source) {
            int header = 4 * (one(row, at + 12) >> 4);
            boolean good = whole >= TCP_HEADER
                    && header >= TCP_HEADER
                    && header <= whole
                    && isRight(pseudoTotal(source, whole) + total(row, at, whole));
            if (!good) {
                return false;
            }
            from = row;
            dataAt = at + header;
            dataLength = whole - header;
            address = source;
            port = two(row, at);
            toPort = two(row, at + 2);
            number = four(row, at + 4);
            acknowledgement = four(row, at + 8);
            flags = one(row, at + 13);
            window = two(row, at + 14);
            length = dataLength + (has(SYN) ? 1 : 0) + (has(FIN) ? 1 : 0);
            mss = MSS_MOST;
            if (has(SYN)) {
                readOptions(at + TCP_HEADER, dataAt);
            }
            return true;
        }

        private boolean has(int flag) {
            return (flags & flag) != 0;
        }

        private void readOptions(int begin, int end) {
            int at = begin;
            for (int i = begin; i < end && at < end; i++) {
                int kind = one(from, at);
                int size = kind == 1 ? 1 : at + 1 < end ? one(from, at + 1) : 0;
                boolean ends = kind == 0 || kind != 1 && size < 2 || size > end - at;
                if (ends) {
                    return;
                }
                if (kind == 2 && size == 4) {
                    mss = Math.max(MSS_LEAST, Math.min(MSS_MOST, two(from, at + 2)));
                }
                at += size;
            }
        }
    }

    /** What came from the other: the INBOX, and behind it what came too early. */
    private static final class Inbox {
        private final byte[] content = new byte[INBOX_MOST];
        private final byte[] there = new byte[INBOX_MOST];
        private int length;
        private int next;
        private boolean finTold;
        private int finPlace;
        private boolean finReached;

        private void begin(int first) {
            Arrays.fill(there, (byte) 0);
            length = 0;
            next = first;
            finTold = false;
            finPlace = 0;
            finReached = false;
        }

        private int window() {
            return INBOX_MOST - length;
        }

        private boolean isInWindow(int number) {
            int ahead = number - next;
            return ahead >= 0 && ahead < window();
        }

        private boolean fits(Segment s) {
            if (s.length == 0) {
                return s.number == next || isInWindow(s.number);
            }
            return isInWindow(s.number) || isInWindow(s.number + s.length - 1);
        }

        private void keep(Segment s) {
            for (int i = 0; i < s.dataLength; i++) {
                int number = s.number + i;
                boolean wanted = isInWindow(number) && (!finTold || number - finPlace < 0);
                int place = length + (number - next);
                if (wanted && place >= 0 && place < INBOX_MOST && there[place] == 0) {
                    there[place] = 1;
                    content[place] = (byte) one(s.from, s.dataAt + i);
                }
            }
            int place = s.number + s.dataLength;
            int ahead = place - next;
            if (s.has(FIN) && !finTold && ahead >= 0 && ahead <= window()) {
                finTold = true;
                finPlace = place;
            }
        }

        private void advance() {
            for (int i = length; i < INBOX_MOST && there[i] != 0; i++) {
                if (finTold && next == finPlace) {
                    break;
                }
                length++;
                next++;
            }
            if (finTold && next == finPlace) {
                next++;
                finReached = true;
            }
        }

        private void drop(int n) {
            if (n <= 0 || n > length) {
                return;
            }
            int rest = INBOX_MOST - n;
            copy(content, n, content, 0, rest);
            copy(there, n, there, 0, rest);
            Arrays.fill(there, rest, INBOX_MOST, (byte) 0);
            length -= n;
        }
    }

    /** What goes to the other, from the first byte that is not acknowledged on. */
    private static final class Outbox {
        private final byte[] content = new byte[OUTBOX_MOST];
        private int length;
        private int unacked;
        private int sendNext;
        private boolean finSent;

        private void begin(int ours) {
            length = 0;
            unacked = ours;
            sendNext = ours + 1;
            finSent = false;
        }

        /** How many numbers are sent and not acknowledged, those of SYN and FIN too. */
        private int flying() {
            return sendNext - unacked;
        }

        private int sentBytes() {
            return Math.min(flying(), length);
        }

        private int unsentBytes() {
            return length - sentBytes();
        }

        private boolean isFinAcknowledged() {
            return finSent && flying() == 0;
        }

        private boolean takes(byte[] answer, int n) {
            if (length + n > OUTBOX_MOST) {
                return false;
            }
            copy(answer, 0, content, length, n);
            length += n;
            return true;
        }

        private void acknowledge(int number) {
            int gone = Math.max(0, Math.min(number - unacked, length));
            copy(content, gone, content, 0, length - gone);
            length -= gone;
            unacked = number;
        }
    }

    /** A connection with one port of another. */
    private static final class Connection {
        private final Inbox inbox = new Inbox();
        private final Outbox outbox = new Outbox();
        private int address;
        private int port;
        private int state;
        /** The other's window, and number and acknowledgement of the segment of which it was taken. */
        private int window;
        private int windowNumber;
        private int windowAcknowledgement;
        private int mss;
        private int span;
        private int limit;
        private int doubles;
        private int tries;
        private int timeout;
        private int timer;
        private int leavesAt;
        /** Whether HTTP has no more to say on it. */
        private boolean ends;

        private void begin(Segment s, int ours, int now) {
            inbox.begin(s.number + 1);
            outbox.begin(ours);
            address = s.address;
            port = s.port;
            state = OPENING;
            takeWindow(s);
            mss = s.mss;
            span = 2 * mss;
            limit = FIRST_LIMIT;
            doubles = 0;
            tries = 0;
            timeout = FIRST_TIMEOUT;
            startTimer(now);
            leavesAt = NEVER;
            ends = false;
        }

        private int due() {
            if (state == LEAVING) {
                return leavesAt;
            }
            return timer < 0 ? NEVER : timer;
        }

        private void startTimer(int now) {
            timer = now + timeout;
        }

        private void endTimer() {
            timer = -1;
        }

        private void doubleTimeout() {
            timeout = Math.min(2 * timeout, TIMEOUT_MOST);
        }

        private void takeWindow(Segment s) {
            window = s.window;
            windowNumber = s.number;
            windowAcknowledgement = s.acknowledgement;
        }

        private boolean isWindowNews(Segment s) {
            int ahead = s.number - windowNumber;
            boolean later = ahead > 0
                    || ahead == 0 && s.acknowledgement - windowAcknowledgement >= 0;
            return s.acknowledgement - outbox.unacked >= 0 && later;
        }

        private void open(Segment s) {
            state = OPEN;
            outbox.acknowledge(s.acknowledgement);
            endTimer();
            tries = 0;
            timeout = FIRST_TIMEOUT;
            takeWindow(s);
        }

        /** Takes the acknowledgement of a segment: whether it makes something be sent again. */
        private boolean wantsAgain(Segment s, int now) {
            if (s.acknowledgement - outbox.unacked > 0) {
                moveOn(s.acknowledgement, now);
                return false;
            }
            boolean isDouble = s.acknowledgement == outbox.unacked
                    && s.length == 0
                    && s.window == window
                    && outbox.flying() > 0;
            if (!isDouble) {
                return false;
            }
            doubles++;
            if (doubles != DOUBLES_TOLD) {
                return false;
            }
            lowerLimit();
            span = limit;
            return true;
        }

        private void moveOn(int acknowledgement, int now) {
            outbox.acknowledge(acknowledgement);
            tries = 0;
            doubles = 0;
            timeout = FIRST_TIMEOUT;
            if (outbox.flying() > 0) {
                startTimer(now);
            } else {
                endTimer();
            }
            boolean slowStart = span < limit || span <= 0;
            span += slowStart ? mss : Math.max(1, mss * mss / span);
        }

        /** Once only: what comes while it waits for the other's FIN does not put off its end. */
        private void leave(int now) {
            if (state != LEAVING) {
                state = LEAVING;
                leavesAt = now + LEAVING_TIME;
            }
        }

        private void lowerLimit() {
            limit = Math.max(outbox.flying() / 2, 2 * mss);
        }

        private boolean isShut() {
            return window == 0 && outbox.length > 0;
        }

        /** A window that is shut must be probed, or its opening could be missed for ever. */
        private void mindTimer(int now) {
            if (outbox.flying() > 0) {
                return;
            }
            if (!isShut()) {
                endTimer();
            } else if (timer < 0) {
                startTimer(now);
            }
        }
    }

    /** The connections, in the order in which they were made; the objects behind them are spare. */
    private static final class Tcp {
        private final Connection[] list = new Connection[CONNECTIONS_MOST];
        private final byte[] body = new byte[TCP_HEADER + 4 + MSS_MOST];
        private final Wire wire;
        private int held;
        private int made;

        private Tcp(Wire wire) {
            this.wire = wire;
            for (int i = 0; i < CONNECTIONS_MOST; i++) {
                list[i] = new Connection();
            }
        }

        private Connection find(int address, int port) {
            for (int i = 0; i < held; i++) {
                if (list[i].address == address && list[i].port == port) {
                    return list[i];
                }
            }
            return null;
        }

        private Connection firstDue() {
            Connection first = null;
            for (int i = 0; i < held; i++) {
                if (first == null || list[i].due() < first.due()) {
                    first = list[i];
                }
            }
            return first;
        }

        private void remove(Connection gone) {
            int at = 0;
            for (int i = 0; i < held; i++) {
                if (list[i] != gone) {
                    list[at] = list[i];
                    at++;
                }
            }
            if (at < held) {
                list[at] = gone;
                held = at;
            }
        }

        /** A segment for which there is no connection. */
        private void takeStranger(Segment s, int now) {
            if (s.has(RST)) {
                return;
            }
            if (s.has(ACK)) {
                sendReset(s, RST, s.acknowledgement, 0);
            } else if (s.has(SYN) && s.toPort == HTTP_PORT && held < CONNECTIONS_MOST) {
                Connection c = list[held];
                held++;
                made++;
                c.begin(s, 100000 * made, now);
                sendSyn(c);
            } else {
                sendReset(s, RST | ACK, 0, s.number + s.length);
            }
        }

        /** Whether a segment of a connection counts; if it does not, it is answered here. */
        private boolean accepts(Connection c, Segment s) {
            if (!c.inbox.fits(s)) {
                if (!s.has(RST)) {
                    sendAck(c);
                }
                return false;
            }
            if (s.has(RST)) {
                remove(c);
                return false;
            }
            if (s.has(SYN)) {
                sendAck(c);
                return false;
            }
            if (!s.has(ACK)) {
                return false;
            }
            if (c.state == OPENING && s.acknowledgement != c.outbox.sendNext) {
                sendReset(s, RST, s.acknowledgement, 0);
                return false;
            }
            if (c.state == OPENING) {
                c.open(s);
            }
            if (s.acknowledgement - c.outbox.sendNext > 0) {
                sendAck(c);
                return false;
            }
            return true;
        }

        /** Takes acknowledgement, window, data and FIN: whether the connection is still there then. */
        private boolean takes(Connection c, Segment s, int now) {
            if (c.wantsAgain(s, now)) {
                sendAgain(c);
            }
            if (c.isWindowNews(s)) {
                c.takeWindow(s);
            }
            boolean finAcknowledged = c.outbox.isFinAcknowledged();
            if (finAcknowledged && c.inbox.finReached) {
                remove(c);
                return false;
            }
            if (finAcknowledged) {
                c.leave(now);
            }
            if (!c.inbox.finReached) {
                c.inbox.keep(s);
                c.inbox.advance();
            }
            if (finAcknowledged && c.inbox.finReached) {
                sendAck(c);
                remove(c);
                return false;
            }
            return true;
        }

        private void sendWhatMay(Connection c, boolean mustAnswer, int now) {
            boolean silent = true;
            for (int i = 0; i < OUTBOX_MOST; i++) {
                int room = Math.min(c.window, c.span) - c.outbox.flying();
                int n = Math.min(Math.min(room, c.mss), c.outbox.unsentBytes());
                if (n <= 0) {
                    break;
                }
                sendNew(c, n, now);
                silent = false;
            }
            if (c.ends && !c.outbox.finSent && c.outbox.unsentBytes() == 0) {
                sendNew(c, 0, now);
                silent = false;
            }
            if (silent && mustAnswer) {
                sendAck(c);
            }
            c.mindTimer(now);
        }

        /** Sends the next n bytes, with FIN if they are the last ones of all. */
        private void sendNew(Connection c, int n, int now) {
            Outbox out = c.outbox;
            boolean last = n == out.unsentBytes();
            boolean fin = last && c.ends;
            if (out.flying() == 0) {
                c.startTimer(now);
            }
            int flags = ACK | (last && n > 0 ? PSH : 0) | (fin ? FIN : 0);
            sendBytes(c, flags, out.sendNext, n);
            out.sendNext += fin ? n + 1 : n;
            out.finSent = fin;
        }

        /** Sends again what is first not acknowledged. */
        private void sendAgain(Connection c) {
            if (c.state == OPENING) {
                sendSyn(c);
                return;
            }
            Outbox out = c.outbox;
            int n = Math.min(out.sentBytes(), c.mss);
            boolean fin = out.finSent && n == out.sentBytes();
            boolean last = n > 0 && n == out.length;
            sendBytes(c, ACK | (last ? PSH : 0) | (fin ? FIN : 0), out.unacked, n);
        }

        /** Sends the first byte into a shut window, to hear of the window. */
        private void sendProbe(Connection c) {
            Outbox out = c.outbox;
            sendBytes(c, out.length == 1 ? ACK | PSH : ACK, out.unacked, 1);
            if (out.flying() == 0) {
                out.sendNext++;
            }
        }

        /** Does what is due on a connection whose time has come. */
        private void fire(Connection c, int now) {
            if (c.state == LEAVING) {
                remove(c);
                return;
            }
            if (c.state == OPEN && c.isShut()) {
                sendProbe(c);
            } else {
                c.tries++;
                if (c.tries >= TRIES_MOST) {
                    giveUp(c);
                    return;
                }
                c.lowerLimit();
                c.span = c.mss;
                c.doubles = 0;
                sendAgain(c);
            }
            c.doubleTimeout();
            c.startTimer(now);
        }

        private void sendSyn(Connection c) {
            int next = c.inbox.next;
            writeHeader(HTTP_PORT, c.port, c.outbox.unacked, next, 0x6000 | SYN | ACK, c.inbox.window());
            putFour(body, TCP_HEADER, 0x02040000 | MSS_MOST);
            seal(c.address, TCP_HEADER + 4);
            wire.sendPacket(TCP, c.address, body, TCP_HEADER + 4);
        }

        private void sendAck(Connection c) {
            sendBytes(c, ACK, c.outbox.sendNext, 0);
        }

        private void sendBytes(Connection c, int flags, int number, int n) {
            writeHeader(HTTP_PORT, c.port, number, c.inbox.next, 0x5000 | flags, c.inbox.window());
            copy(c.outbox.content, number - c.outbox.unacked, body, TCP_HEADER, n);
            seal(c.address, TCP_HEADER + n);
            wire.sendPacket(TCP, c.address, body, TCP_HEADER + n);
        }

        private void sendReset(Segment s, int flags, int number, int acknowledgement) {
            writeHeader(s.toPort, s.port, number, acknowledgement, 0x5000 | flags, 0);
            seal(s.address, TCP_HEADER);
            wire.sendPacket(TCP, s.address, body, TCP_HEADER);
        }

        private void giveUp(Connection c) {
            writeHeader(HTTP_PORT, c.port, c.outbox.sendNext, 0, 0x5000 | RST, 0);
            seal(c.address, TCP_HEADER);
            wire.sendPacket(TCP, c.address, body, TCP_HEADER);
            remove(c);
        }

        private void writeHeader(int from, int to, int number, int acknowledgement,
                int lengthAndFlags, int window) {
            putTwo(body, 0, from);
            putTwo(body, 2, to);
            putFour(body, 4, number);
            putFour(body, 8, acknowledgement);
            putTwo(body, 12, lengthAndFlags);
            putTwo(body, 14, window);
            putFour(body, 16, 0);
        }

        private void seal(int address, int length) {
            putTwo(body, 16, sum(pseudoTotal(address, length) + total(body, 0, length)));
        }
    }

    /** Reads requests and writes answers. */
    private static final class Http {
        private final Store store;
        private final byte[] answer = new byte[ANSWER_MOST];
        private int answerLength;
        /** Whether the request that was read ends the connection, and the page that it asks for. */
        private boolean closes;
        private int found;

        private Http(Store store) {
            this.store = store;
        }

        private void serve(Connection c) {
            if (c.state != OPEN) {
                return;
            }
            boolean waits = false;
            for (int i = 0; i < INBOX_MOST && !waits && !c.ends; i++) {
                int end = requestEnd(c.inbox);
                if (end < 0) {
                    break;
                }
                waits = !answers(c, end);
            }
            if (c.inbox.finReached && !waits) {
                c.ends = true;
            }
        }

        /** Where the first request ends; 0 if it is too long for one, -1 if its end has not come. */
        private static int requestEnd(Inbox inbox) {
            int most = Math.min(inbox.length, REQUEST_MOST);
            for (int end = 4; end <= most; end++) {
                if (four(inbox.content, end - 4) == 0x0d0a0d0a) {
                    return end;
                }
            }
            return inbox.length >= REQUEST_MOST ? 0 : -1;
        }

        /** Answers what stands before an end, if there is room for that. */
        private boolean answers(Connection c, int end) {
            closes = true;
            int status = end == 0 ? 431 : judge(c.inbox.content, end);
            writeAnswer(status);
            if (!c.outbox.takes(answer, answerLength)) {
                return false;
            }
            c.inbox.drop(end == 0 ? c.inbox.length : end);
            c.ends = closes;
            return true;
        }

        /** The number that answers a request; what is no request leaves the connection closing. */
        private int judge(byte[] row, int end) {
            int methodEnd = 0;
            while (methodEnd < end && isCapital(one(row, methodEnd))) {
                methodEnd++;
            }
            int target = methodEnd + 1;
            int targetEnd = target;
            while (targetEnd < end && isVisible(one(row, targetEnd))) {
                targetEnd++;
            }
            boolean good = methodEnd > 0
                    && one(row, methodEnd) == ' '
                    && one(row, target) == '/'
                    && one(row, targetEnd) == ' '
                    && isVersion(row, targetEnd + 1);
            if (!good) {
                return 400;
            }
            boolean close = one(row, targetEnd + 8) == '0';
            int at = targetEnd + 11;
            for (int i = 0; i < end && at < end - 2; i++) {
                int next = fieldEnd(row, at, end);
                if (next < 0) {
                    return 400;
                }
                close = close || saysClose(row, at, next - 2);
                at = next;
            }
            closes = close;
            if (!isWord(row, 0, methodEnd, "get")) {
                return 405;
            }
            found = store.find(row, target, targetEnd - target);
            if (found < 0) {
                return 404;
            }
            return store.isSound(found) ? 200 : 500;
        }

        private static boolean isVersion(byte[] row, int at) {
            int minor = one(row, at + 7);
            return four(row, at) == 0x48545450
                    && two(row, at + 4) == 0x2f31
                    && one(row, at + 6) == '.'
                    && (minor == '0' || minor == '1')
                    && two(row, at + 8) == 0x0d0a;
        }

        private static boolean isCapital(int c) {
            return c >= 'A' && c <= 'Z';
        }

        private static boolean isVisible(int c) {
            return c >= 33 && c <= 126;
        }

        private static boolean isOfName(int c) {
            return c >= 'A' && c <= 'Z' || c >= 'a' && c <= 'z' || c >= '0' && c <= '9' || c == '-';
        }

        private static int nameEnd(byte[] row, int at, int end) {
            int to = at;
            while (to < end && isOfName(one(row, to))) {
                to++;
            }
            return to;
        }

        /** Where a line NAME:VALUE and its 13 10 end, -1 if it is no such line. */
        private static int fieldEnd(byte[] row, int at, int end) {
            int colon = nameEnd(row, at, end);
            if (colon == at || one(row, colon) != ':') {
                return -1;
            }
            int to = colon + 1;
            while (to < end && (one(row, to) == ' ' || isVisible(one(row, to)))) {
                to++;
            }
            return two(row, to) == 0x0d0a ? to + 2 : -1;
        }

        private static boolean saysClose(byte[] row, int at, int end) {
            int colon = nameEnd(row, at, end);
            int from = colon + 1;
            while (from < end && one(row, from) == ' ') {
                from++;
            }
            int to = end;
            while (to > from && one(row, to - 1) == ' ') {
                to--;
            }
            return isWord(row, at, colon, "connection") && isWord(row, from, to, "close");
        }

        /** Whether the bytes are a word of small letters, in letters of either size. */
        private static boolean isWord(byte[] row, int from, int to, String word) {
            if (to - from != word.length()) {
                return false;
            }
            for (int i = 0; i < word.length(); i++) {
                int c = one(row, from + i);
                int small = isCapital(c) ? c + 32 : c;
                if (small != word.charAt(i)) {
                    return false;
                }
            }
            return true;
        }

        private static String statusLine(int status) {
            switch (status) {
                case 200: return "HTTP/1.1 200 OK\r\n";
                case 400: return "HTTP/1.1 400 Bad Request\r\n";
                case 404: return "HTTP/1.1 404 Not Found\r\n";
                case 405: return "HTTP/1.1 405 Method Not Allowed\r\n";
                case 431: return "HTTP/1.1 431 Request Header Fields Too Large\r\n";
                default: return "HTTP/1.1 500 Internal Server Error\r\n";
            }
        }

        private void writeAnswer(int status) {
            boolean hasPage = status == 200 && found >= 0 && found < store.held;
            int length = hasPage ? store.lengths[found] : 0;
            answerLength = 0;
            addText(statusLine(status));
            addText("Content-Length: ");
            addNumber(length);
            addText("\r\n");
            if (closes) {
                addText("Connection: close\r\n");
            }
            addText("\r\n");
            if (hasPage) {
                copy(store.contents[found], 0, answer, answerLength, length);
                answerLength += length;
            }
        }

        private void addText(String text) {
            for (int i = 0; i < text.length(); i++) {
                addByte(text.charAt(i));
            }
        }

        private void addNumber(int n) {
            for (int scale = 1000; scale > 0; scale /= 10) {
                if (n >= scale || scale == 1) {
                    addByte('0' + n / scale % 10);
                }
            }
        }

        private void addByte(int value) {
            if (answerLength < ANSWER_MOST) {
                answer[answerLength] = (byte) value;
                answerLength++;
            }
        }
    }

    /** The pages, in the order in which their targets came. */
    private static final class Store {
        private final byte[][] targets = new byte[PAGES_MOST][TARGET_MOST];
        private final int[] targetLengths = new int[PAGES_MOST];
        private final byte[][] contents = new byte[PAGES_MOST][PAGE_MOST];
        private final int[] lengths = new int[PAGES_MOST];
        private final int[] sums = new int[PAGES_MOST];
        private int held;

        private static boolean isTarget(byte[] row, int n) {
            for (int i = 0; i < n; i++) {
                if (one(row, i) < 33 || one(row, i) > 126) {
                    return false;
                }
            }
            return one(row, 0) == '/';
        }

        private int find(byte[] row, int from, int length) {
            for (int i = 0; i < held; i++) {
                if (targetLengths[i] == length && isSame(targets[i], row, from, length)) {
                    return i;
                }
            }
            return -1;
        }

        private static boolean isSame(byte[] target, byte[] row, int from, int length) {
            for (int i = 0; i < length; i++) {
                if (one(target, i) != one(row, from + i)) {
                    return false;
                }
            }
            return true;
        }

        /** The first n bytes of a row name the page that follows them, up to an end. */
        private void put(byte[] row, int n, int end) {
            int k = find(row, 0, n);
            if (k < 0) {
                k = held;
            }
            if (k >= PAGES_MOST) {
                return;
            }
            held = Math.max(held, k + 1);
            targetLengths[k] = n;
            copy(row, 0, targets[k], 0, n);
            lengths[k] = end - n;
            copy(row, n, contents[k], 0, end - n);
            sums[k] = sumNow(k);
        }

        private int sumNow(int k) {
            return sum(total(contents[k], 0, lengths[k]));
        }

        private boolean isSound(int k) {
            return k >= 0 && k < held && sums[k] == sumNow(k);
        }
    }
}
