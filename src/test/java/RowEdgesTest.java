/** The boundary cases of ROW, sentence by sentence: promises 2 and 3, and how long a frame may be. */
public final class RowEdgesTest {
    public static void main(String[] args) {
        feedOfAnEmptyRow();
        feedUpTo2000();
        highestByteFirst();
        cutOfAll();
        cutOfNone();
        cutTakesTheRestAway();
        arriveUpTo1518();
        arriveOfAnEmptyRow();
        rowIsEmptyBehindArrive();
        Check.end();
    }

    /** "Twenty bytes come [...] to ROW: how many it has." */
    private static void feedOfAnEmptyRow() {
        Lab lab = new Lab();
        Check.same("the first twenty", lab.x.feed(0, 0, 0, 0, 0), 20);
        lab.x.cut(0);
        Check.same("the first twenty behind a cut", lab.x.feed(0, 0, 0, 0, 0), 20);
        lab.x.arrive();
        Check.same("the first twenty behind a frame", lab.x.feed(0, 0, 0, 0, 0), 20);
        lab.x.cut(1);
        Check.same("twenty behind one", lab.x.feed(0, 0, 0, 0, 0), 21);
    }

    /** "IllegalStateException if they would be more than 2000." */
    private static void feedUpTo2000() {
        for (int length = 1975; length <= 2000; length++) {
            Lab lab = new Lab();
            lab.row(new byte[length]);
            if (length <= 1980) {
                Check.same("feed behind " + length, lab.x.feed(1, 1, 1, 1, 1), length + 20);
            } else {
                Check.fails("feed behind " + length, IllegalStateException.class, () -> lab.x.feed(1, 1, 1, 1, 1));
                Check.same("ROW stays", Sight.rowLength(lab), length);
            }
        }
    }

    /** "Twenty bytes come, the highest of a first": numbers below 0 and at both ends too. */
    private static void highestByteFirst() {
        Lab lab = new Lab();
        lab.x.feed(0x2f7fffff, Integer.MIN_VALUE, Integer.MAX_VALUE, -1, -2);
        lab.x.page(1);
        int[] due = {127, 255, 255, 128, 0, 0, 0, 127, 255, 255, 255, 255, 255, 255, 255, 255, 255, 255, 254};
        for (int i = 0; i < due.length; i++) {
            Check.same("byte " + i, lab.x.damage(0, i, 0), due[i]);
        }
    }

    /** "IllegalArgumentException if there are not so many": all of them are not too many. */
    private static void cutOfAll() {
        for (int length : new int[] {0, 1, 19, 20, 21, 1518, 1999, 2000}) {
            Lab lab = new Lab();
            lab.row(new byte[length]);
            Check.same("cut of all " + length, lab.x.cut(length), length);
            Check.fails("one more", IllegalArgumentException.class, () -> lab.x.cut(length + 1));
            Check.same("cut of all again", lab.x.cut(length), length);
        }
    }

    /** "or n is below 0": 0 is not. */
    private static void cutOfNone() {
        Lab lab = new Lab();
        Check.same("cut(0) of none", lab.x.cut(0), 0);
        lab.row(new byte[2000]);
        Check.fails("cut(-1)", IllegalArgumentException.class, () -> lab.x.cut(-1));
        Check.fails("the least", IllegalArgumentException.class, () -> lab.x.cut(Integer.MIN_VALUE));
        Check.same("cut(0) of 2000", lab.x.cut(0), 0);
        Check.fails("nothing is left", IllegalArgumentException.class, () -> lab.x.cut(1));
    }

    /** "ROW has only its first n bytes": what was behind them does not come again. */
    private static void cutTakesTheRestAway() {
        Lab lab = new Lab();
        lab.row(Frames.text("/aaaaaaaaaaaaaaaaaaa"));
        lab.x.cut(2);
        Check.fails("no way back", IllegalArgumentException.class, () -> lab.x.cut(3));
        lab.x.feed(0x62626262, 0x62626262, 0x62626262, 0x62626262, 0x62626262);
        lab.x.page(1);
        Check.same("the page", Frames.text(Sight.page(lab, 0)), "a" + "b".repeat(20));
    }

    private static byte[] echo(int whole) {
        byte[] body = Frames.icmp(8, 0, Frames.fill(whole - 14 - 20 - 4, 'e'));
        return Frames.ethernet(Frames.MINE, 5, 0x0800, Frames.ip(0x0a000102, 1, 0, 1, body));
    }

    /** "IllegalArgumentException if it has more than 1518 bytes." */
    private static void arriveUpTo1518() {
        for (int length = 1516; length <= 1518; length++) {
            Lab lab = new Lab();
            Check.same("a frame of " + length, lab.give(echo(length)), 1);
            Check.same("comes back", lab.x.size(0), length);
        }
        Lab lab = new Lab();
        lab.row(Frames.join(echo(1518), new byte[1]));
        Check.fails("1519 bytes", IllegalArgumentException.class, () -> lab.x.arrive());
        Check.same("nothing was sent", lab.sent(), 0);
        Check.same("ROW stays", lab.x.cut(1518), 1518);
        Check.same("it is good without the last one", lab.x.arrive(), 1);
        Check.same("1518 bytes of a shorter packet", lab.give(Frames.join(echo(60), new byte[1458])), 1);
        Check.same("comes back short", lab.x.size(1), 60);
    }

    /** "ROW is a frame that comes": an empty one is shorter than 14 bytes. */
    private static void arriveOfAnEmptyRow() {
        Lab lab = new Lab();
        Check.same("an empty row", lab.x.arrive(), 0);
        lab.give(echo(60));
        Check.same("an empty row behind a good frame", lab.x.arrive(), 0);
        Check.same("one frame", lab.sent(), 1);
    }

    /** "and empty then": of whatever kind the frame was. */
    private static void rowIsEmptyBehindArrive() {
        for (int length : new int[] {0, 1, 13, 14, 60, 1518}) {
            Lab lab = new Lab();
            lab.row(Frames.part(Frames.join(echo(60), new byte[1458]), 0, length));
            lab.x.arrive();
            Check.same("behind " + length, Sight.rowLength(lab), 0);
        }
    }
}
