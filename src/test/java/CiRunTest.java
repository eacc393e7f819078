import java.io.IOException;

/** .ci/run: it runs every test, those of the project and those that are shared, and fails if one fails. */
public final class CiRunTest {
    private static final String MAIN = "src/main/java/UnikernelHttp.java";
    private static final String OWN = "src/test/java/";
    private static final String SHARED = "../shared/tests/";

    /** A checkout with a few small tests, on which .ci/run is run while others are, too. */
    private static final class Trial {
        private final String what;
        private final Checkout checkout = new Checkout();
        private Process process;

        private Trial(String what) throws IOException {
            this.what = what;
            checkout.copy(".ci/run");
            checkout.copy(MAIN);
            put(OWN, "ZuluTest", "");
            put(SHARED, "ZuluRuns", "");
        }

        /** A test that makes an object, says that it is there, and then does something. */
        private Trial put(String where, String name, String body) throws IOException {
            checkout.write(where + name + ".java", "public final class " + name
                    + " { public static void main(String[] args) { new UnikernelHttp();"
                    + " System.out.println(\"here is " + name + "\"); " + body + " } }\n");
            return this;
        }

        private Trial start() throws IOException {
            process = checkout.start(".ci/run");
            return this;
        }

        /** All that could be run has been, also behind what failed, and what failed is named. */
        private void ends(int code, String... due) throws IOException, InterruptedException {
            Check.same(what + ": exit code", Checkout.end(process), code);
            String printed = checkout.printed();
            for (String text : due) {
                Check.yes(what + ": [" + text + "] is printed by " + printed, printed.contains(text));
            }
            Check.yes(what + ": every test passed", printed.contains("every test passed") == (code == 0));
            checkout.remove();
        }
    }

    public static void main(String[] args) throws IOException, InterruptedException {
        Trial good = new Trial("all pass").start();
        Trial shared = new Trial("a shared test fails").put(SHARED, "AlphaRuns", "System.exit(1);").start();
        Trial odd = new Trial("a shared test ends with 3").put(SHARED, "AlphaRuns", "System.exit(3);").start();
        Trial broken = new Trial("a shared test does not compile").put(SHARED, "AlphaRuns", "new No();").start();
        Trial own = new Trial("an own test fails").put(OWN, "AlphaTest", "System.exit(1);").start();
        Trial thrown = new Trial("an own test throws").put(OWN, "AlphaTest", "int[] a = new int[args.length]; a[0]++;")
                .start();
        Trial unread = new Trial("an own test does not compile").put(OWN, "AlphaTest", "new No();").start();
        Trial last = new Trial("the last shared test fails").put(SHARED, "ZuluRuns", "System.exit(1);").start();
        good.ends(0, "here is ZuluRuns", "here is ZuluTest");
        shared.ends(1, "FAILED: AlphaRuns", "here is ZuluRuns", "here is ZuluTest");
        odd.ends(1, "FAILED: AlphaRuns", "here is ZuluRuns", "here is ZuluTest");
        broken.ends(1, "AlphaRuns.java does not compile", "here is ZuluRuns", "here is ZuluTest");
        own.ends(1, "here is ZuluRuns", "FAILED: AlphaTest", "here is ZuluTest");
        thrown.ends(1, "here is ZuluRuns", "FAILED: AlphaTest", "here is ZuluTest");
        unread.ends(1, "here is ZuluRuns", "the project's tests do not compile");
        last.ends(1, "FAILED: ZuluRuns", "here is ZuluTest");
        noSharedTests();
        Check.end();
    }

    private static void noSharedTests() throws IOException, InterruptedException {
        Checkout checkout = new Checkout();
        checkout.copy(".ci/run");
        checkout.copy(MAIN);
        checkout.write(OWN + "ZuluTest.java", "public final class ZuluTest { public static void main(String[] a) { } }");
        Check.same("no shared tests: exit code", Checkout.end(checkout.start(".ci/run")), 1);
        Check.yes("no shared tests: told", checkout.printed().contains("no test found under ../shared/tests"));
        checkout.remove();
    }
}
