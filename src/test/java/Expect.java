/** What the tests share: compares answers, and ends the program with 1 if one was wrong. */
final class Expect {
    static final Class<?> NO_SUCH_HILL = IndexOutOfBoundsException.class;
    static final Class<?> BAD_NUMBER = IllegalArgumentException.class;
    static final Class<?> BAD_STATE = IllegalStateException.class;

    interface Call {
        void run();
    }

    interface HillCall {
        void run(int hill);
    }

    private static int compared = 0;
    private static int wrong = 0;
    private static String about = "";

    private Expect() {
    }

    /** What the comparisons from now on are about is told with those that are wrong. */
    static void about(String words) {
        about = " [" + words + "]";
    }

    static void same(String what, long got, long due) {
        same(what, Long.toString(got), Long.toString(due));
    }

    static void same(String what, boolean got, boolean due) {
        same(what, Boolean.toString(got), Boolean.toString(due));
    }

    static void same(String what, double got, double due) {
        same(what, Double.toString(got), Double.toString(due));
    }

    static void same(String what, String got, String due) {
        compared++;
        if (!got.equals(due)) {
            fail(what + " answered " + got + ", due is " + due);
        }
    }

    /** The call must throw exactly this kind, and leave the land as it was. */
    static void refused(String what, Class<?> kind, HillBeacons land, Call call) {
        long before = land.digest();
        String thrown = "nothing";
        try {
            call.run();
        } catch (RuntimeException e) {
            thrown = e.getClass().getSimpleName();
        }
        same(what + ", as what it throws,", thrown, kind.getSimpleName());
        same(what + ", refused, in the digest", land.digest(), before);
    }

    /** The call must be refused for each number that no hill of the land has. */
    static void refusesOtherHills(String what, HillBeacons land, HillCall call) {
        int[] others = {-1, land.hills(), 10, Integer.MIN_VALUE, Integer.MAX_VALUE};
        for (int hill : others) {
            refused(what + " of hill " + hill, NO_SUCH_HILL, land, () -> call.run(hill));
        }
    }

    /** The call must leave the land as it was. */
    static void unchanged(String what, HillBeacons land, Call call) {
        long before = land.digest();
        call.run();
        same(what + ", in the digest,", land.digest(), before);
    }

    /** Two lands must be the same, now and behind each of the minutes until all is dark. */
    static void sameFromNowOn(String what, HillBeacons one, HillBeacons other) {
        for (int i = 0; i < 45; i++) {
            same(what + ", in the digest " + i + " minutes later,", one.digest(), other.digest());
            one.passMinutes(1);
            other.passMinutes(1);
        }
    }

    static void fail(String what) {
        wrong++;
        System.out.println("WRONG: " + what + about);
    }

    static void end() {
        System.out.println(compared + " comparisons, " + wrong + " wrong");
        if (compared == 0 || wrong > 0) {
            System.exit(1);
        }
    }
}
