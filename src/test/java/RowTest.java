/** Promises 2 and 3: feed and cut. */
public final class RowTest {
    public static void main(String[] args) {
        feedCountsAndStops();
        bytesComeInTheirOrder();
        cutKeepsTheFirst();
        Check.end();
    }

    private static void feedCountsAndStops() {
        UnikernelHttp x = new UnikernelHttp();
        for (int i = 1; i <= 100; i++) {
            Check.same("feed " + i, x.feed(i, i, i, i, i), 20 * i);
        }
        Check.fails("a feed beyond 2000", IllegalStateException.class, () -> x.feed(0, 0, 0, 0, 0));
        Check.same("the row is as it was", x.cut(2000), 2000);
        x.cut(1981);
        Check.fails("20 bytes behind 1981", IllegalStateException.class, () -> x.feed(0, 0, 0, 0, 0));
        Check.same("the row is as it was", x.cut(1981), 1981);
        x.cut(1980);
        Check.same("20 bytes behind 1980", x.feed(1, 2, 3, 4, 5), 2000);
    }

    private static void bytesComeInTheirOrder() {
        Lab lab = new Lab();
        lab.x.feed(0x2f010203, 0x04050607, 0x08090a0b, 0x0c0d0e0f, 0x80ff1314);
        lab.x.page(1);
        int[] due = {1, 2, 3, 4, 5, 6, 7, 8, 9, 10, 11, 12, 13, 14, 15, 0x80, 0xff, 0x13, 0x14};
        for (int i = 0; i < due.length; i++) {
            Check.same("byte " + i, lab.x.damage(0, i, 0), due[i]);
        }
    }

    private static void cutKeepsTheFirst() {
        Lab lab = new Lab();
        lab.x.feed(0x2f616263, 0, 0, 0, 0);
        Check.fails("cut(-1)", IllegalArgumentException.class, () -> lab.x.cut(-1));
        Check.fails("cut(21)", IllegalArgumentException.class, () -> lab.x.cut(21));
        Check.fails("cut of the greatest", IllegalArgumentException.class, () -> lab.x.cut(Integer.MAX_VALUE));
        Check.fails("cut of the least", IllegalArgumentException.class, () -> lab.x.cut(Integer.MIN_VALUE));
        Check.same("cut(20)", lab.x.cut(20), 20);
        Check.same("cut(2)", lab.x.cut(2), 2);
        Check.fails("cut(3) then", IllegalArgumentException.class, () -> lab.x.cut(3));
        Check.same("feed then", lab.x.feed(0x62626262, 0, 0, 0, 0), 22);
        lab.x.cut(4);
        lab.x.page(1);
        Check.same("the byte before the cut", lab.x.damage(0, 0, 0), 'a');
        Check.same("the byte behind the cut", lab.x.damage(0, 1, 0), 'b');
        Check.fails("a byte more", IndexOutOfBoundsException.class, () -> lab.x.damage(0, 3, 0));
        Check.same("cut(0) of an empty row", lab.x.cut(0), 0);
    }
}
