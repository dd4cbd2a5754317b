/** What the tests share: it prints every answer that is not the one that is due, and counts them. */
final class Checks {
    /** A call of the class under test; its answer, a boolean as 1 or 0. */
    interface Call {
        long on(LockBank x);
    }

    private static String sentence = "";
    private static int wrong = 0;
    private static int checked = 0;

    static {
        // A call that throws unasked ends its test: this is printed with the sentence, too.
        Thread.setDefaultUncaughtExceptionHandler((thread, e) -> {
            System.out.println(sentence + "a call threw that is to answer");
            e.printStackTrace(System.out);
        });
    }

    private Checks() {
    }

    /** From here on this sentence of the document is tried: wrong answers are printed with it. */
    static void sentence(int promise, String words) {
        sentence = "promise " + promise + ", \"" + words + "\": ";
    }

    /** The numbers beside a range: just too small, just too large, and as far away as can be. */
    static int[] outside(int least, int greatest) {
        return new int[] {least - 1, greatest + 1, Integer.MIN_VALUE, Integer.MAX_VALUE};
    }

    static void due(String call, long got, long want) {
        look(got == want, call + " answered " + got + ", due is " + want);
    }

    static void due(String call, boolean got, boolean want) {
        look(got == want, call + " answered " + got + ", due is " + want);
    }

    static void dueDouble(String call, double got, double want) {
        look(got == want, call + " answered " + got + ", due is " + want);
    }

    private static void look(boolean right, String what) {
        checked++;
        if (!right) {
            wrong++;
            System.out.println(sentence + what);
        }
    }

    /** The call must throw just this kind, and must change nothing. */
    static void dueThrow(LockBank x, Class<? extends RuntimeException> kind, String call, Call c) {
        long before = x.digest();
        String got = "answered";
        try {
            c.on(x);
        } catch (RuntimeException e) {
            got = e.getClass().getSimpleName();
        }
        look(got.equals(kind.getSimpleName()), call + " " + got + ", due is " + kind.getSimpleName());
        due("digest() behind " + call + ", which throws", x.digest(), before);
    }

    static void dueNoSuch(LockBank x, String call, Call c) {
        dueThrow(x, IndexOutOfBoundsException.class, call, c);
    }

    static void dueBadNumber(LockBank x, String call, Call c) {
        dueThrow(x, IllegalArgumentException.class, call, c);
    }

    static void dueBadState(LockBank x, String call, Call c) {
        dueThrow(x, IllegalStateException.class, call, c);
    }

    /** The call must change nothing that can be told. */
    static void dueUnchanged(LockBank x, String call, Call c) {
        long before = x.digest();
        c.on(x);
        due("digest() behind " + call, x.digest(), before);
    }

    static void duePounds(LockBank x, String when, int... waters) {
        for (int p = 0; p < waters.length; p++) {
            due("pound(" + p + ", 0) " + when, x.pound(p, 0), waters[p]);
        }
    }

    /** What told() tells of a barge, from 0 on. */
    static void dueBarge(LockBank x, int barge, int... told) {
        for (int what = 0; what < told.length; what++) {
            due("told(" + barge + ", " + what + ")", x.told(barge, what), told[what]);
        }
    }

    static void end() {
        if (checked == 0) {
            System.out.println("nothing was checked");
            System.exit(1);
        }
        if (wrong != 0) {
            System.out.println(wrong + " of " + checked + " answers are not as due");
            System.exit(1);
        }
    }
}
