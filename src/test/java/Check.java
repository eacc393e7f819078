/** Compares answers with what is due, and counts those that are not so. */
final class Check {
    private static int wrong = 0;
    private static int made = 0;

    /** A call that may throw. */
    interface Call {
        long answer();
    }

    private Check() {
    }

    static void same(String what, long got, long due) {
        made++;
        if (got != due) {
            wrong++;
            System.out.println(what + " answered " + got + ", due is " + due);
        }
    }

    static void same(String what, String got, String due) {
        made++;
        if (!got.equals(due)) {
            wrong++;
            int from = firstDifference(got, due);
            System.out.println(what + " answered [" + part(got, from) + "], due is [" + part(due, from) + "]");
        }
    }

    private static int firstDifference(String a, String b) {
        int at = 0;
        while (at < a.length() && at < b.length() && a.charAt(at) == b.charAt(at)) {
            at++;
        }
        return at;
    }

    /** The text about a place, so that a long one can be read. */
    private static String part(String text, int place) {
        int from = Math.max(0, place - 60);
        int to = Math.min(text.length(), place + 60);
        return (from > 0 ? ".." : "") + text.substring(from, to) + (to < text.length() ? ".." : "");
    }

    static void yes(String what, boolean got) {
        same(what, got ? 1 : 0, 1);
    }

    static void fails(String what, Class<? extends RuntimeException> due, Call call) {
        made++;
        String got;
        try {
            got = "answered " + call.answer();
        } catch (RuntimeException e) {
            if (e.getClass() == due) {
                return;
            }
            got = "threw " + e.getClass().getName();
        }
        wrong++;
        System.out.println(what + " " + got + ", due is " + due.getName());
    }

    static void end() {
        System.out.println(wrong == 0 ? made + " checks, all as due" : wrong + " of " + made + " not as due");
        if (wrong != 0) {
            System.exit(1);
        }
    }
}
