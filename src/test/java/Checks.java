/** What the tests share: it prints every answer that is not the one that is due, and counts them. */
final class Checks {
    /** A call of the class under test; its answer, a boolean as 1 or 0. */
    interface Call {
        long on(LockBank x);
    }

    private static int wrong = 0;
    private static int checked = 0;

    private Checks() {
    }

    static void due(String call, long got, long want) {
        checked++;
        if (got != want) {
            wrong++;
            System.out.println(call + " answered " + got + ", due is " + want);
        }
    }

    static void due(String call, boolean got, boolean want) {
        due(call, got ? 1L : 0L, want ? 1L : 0L);
    }

    static void dueDouble(String call, double got, double want) {
        checked++;
        if (got != want) {
            wrong++;
            System.out.println(call + " answered " + got + ", due is " + want);
        }
    }

    /** The call must throw just this kind, and must change nothing. */
    static void dueThrow(LockBank x, Class<? extends RuntimeException> kind, String call, Call c) {
        checked++;
        long before = x.digest();
        String got = "answered";
        try {
            c.on(x);
        } catch (RuntimeException e) {
            got = e.getClass().getSimpleName();
        }
        if (!got.equals(kind.getSimpleName())) {
            wrong++;
            System.out.println(call + " " + got + ", due is " + kind.getSimpleName());
        }
        due("digest() behind " + call + ", which throws", x.digest(), before);
    }

    static void dueNoSuch(LockBank x, String call, Call c) {
        dueThrow(x, IndexOutOfBoundsException.class, call, c);
    }

    static void dueBadNumber(LockBank x, String call, Call c) {
        dueThrow(x, IllegalArgumentException.class, call, c);
    }

    static void dueBadState(LockBank x, String call, Call c) {
        dueThrow(x, IllegalStateException.class, call, c);
    }

    /** The call must change nothing that can be told. */
    static void dueUnchanged(LockBank x, String call, Call c) {
        long before = x.digest();
        c.on(x);
        due("digest() behind " + call, x.digest(), before);
    }

    static void duePounds(LockBank x, String when, int... waters) {
        for (int p = 0; p < waters.length; p++) {
            due("pound(" + p + ", 0) " + when, x.pound(p, 0), waters[p]);
        }
    }

    static void end() {
        if (checked == 0) {
            System.out.println("nothing was checked");
            System.exit(1);
        }
        if (wrong != 0) {
            System.out.println(wrong + " of " + checked + " answers are not as due");
            System.exit(1);
        }
    }
}
