/** Counts answers, prints each one that is not due, and ends a test with exit code 1 if there was one. */
final class Dues {
    interface Call {
        double answer();
    }

    private static final Class<?> NOTHING = null;

    private final String test;
    private int asked = 0;
    private int wrong = 0;

    Dues(String test) {
        this.test = test;
    }

    void due(String call, double got, double want) {
        judge(call, got == want, "answered " + got + ", due is " + want);
    }

    void dueLong(String call, long got, long want) {
        judge(call, got == want, "answered " + got + ", due is " + want);
    }

    void isTrue(String what, boolean is) {
        judge(what, is, "does not hold");
    }

    void refuses(String call, Class<? extends RuntimeException> want, Call it) {
        Class<?> got = thrownBy(it);
        String name = got == NOTHING ? "nothing" : got.getSimpleName();
        judge(call, got == want, "threw " + name + ", due is " + want.getSimpleName());
    }

    /** Refused, and nothing is changed by it that a digest tells. */
    void refuses(TapCap x, String call, Class<? extends RuntimeException> want, Call it) {
        long before = x.digest();
        refuses(call, want, it);
        dueLong(call + " changes nothing: digest", x.digest(), before);
    }

    int asked() {
        return asked;
    }

    void end() {
        System.out.println(test + ": " + asked + " answers, " + wrong + " not as due");
        if (asked == 0 || wrong > 0) {
            System.exit(1);
        }
    }

    private static Class<?> thrownBy(Call it) {
        try {
            it.answer();
            return NOTHING;
        } catch (RuntimeException e) {
            return e.getClass();
        }
    }

    private void judge(String what, boolean isDue, String otherwise) {
        asked++;
        if (!isDue) {
            wrong++;
            if (wrong <= 50) {
                System.out.println(test + ": " + what + " " + otherwise);
            }
        }
    }
}
