import java.lang.reflect.Method;
import java.lang.reflect.Modifier;
import java.util.Arrays;
import java.util.NoSuchElementException;

/** Promise 1: a new object; and that the class has the document's face and nothing beside it. */
public final class NewObjectTest {
    public static void main(String[] args) {
        UnikernelHttp x = new UnikernelHttp();
        for (int what = 0; what < 8; what++) {
            Check.same("count(" + what + ") of a new object", x.count(what), 0);
        }
        Check.fails("connection", NoSuchElementException.class, () -> x.connection(0, 0, 0));
        Check.fails("damage", IndexOutOfBoundsException.class, () -> x.damage(0, 0, 0));
        Check.fails("size", IndexOutOfBoundsException.class, () -> x.size(0));
        Check.fails("bytes", IndexOutOfBoundsException.class, () -> x.bytes(0, 0));
        Check.same("cut of an empty row", x.cut(0), 0);
        Check.fails("cut of more", IllegalArgumentException.class, () -> x.cut(1));
        Check.same("a tick of an idle server", x.tick(100000), 0);
        firstOfSeveralExceptions();
        face();
        Check.end();
    }

    private static void firstOfSeveralExceptions() {
        Lab lab = new Lab();
        Check.fails("no connection, nor such a what", NoSuchElementException.class,
                () -> lab.x.connection(1, 2, 99));
        for (int i = 0; i < 32; i++) {
            lab.page("/" + i, "");
        }
        lab.row(Frames.text("nothing with a slash"));
        Check.fails("no target, and 32 pages", IllegalArgumentException.class, () -> lab.x.page(3));
        Check.same("the row stays", lab.x.cut(20), 20);
    }

    private static void face() {
        StringBuilder names = new StringBuilder();
        Method[] methods = UnikernelHttp.class.getDeclaredMethods();
        String[] open = new String[methods.length];
        int n = 0;
        for (Method m : methods) {
            if (!Modifier.isPrivate(m.getModifiers())) {
                Check.yes(m + " is public", Modifier.isPublic(m.getModifiers()));
                open[n++] = m.getName();
            }
        }
        open = Arrays.copyOf(open, n);
        Arrays.sort(open);
        for (String name : open) {
            names.append(name).append(' ');
        }
        Check.same("the face", names.toString(),
                "arrive bytes connection count cut damage feed page size tick ");
        for (Method m : methods) {
            boolean hidden = Modifier.isPrivate(m.getModifiers());
            Check.yes(m + " has a name of its own", !hidden || Arrays.binarySearch(open, m.getName()) < 0);
        }
        Check.same("public constructors", UnikernelHttp.class.getConstructors().length, 1);
        Check.same("public fields", UnikernelHttp.class.getFields().length, 0);
        Check.yes("final", Modifier.isFinal(UnikernelHttp.class.getModifiers()));
    }
}
