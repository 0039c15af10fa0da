/** Counts and prints the answers that are not the ones that are due. */
final class Due {
    static final long BEYOND = -100001;
    static final long MISSING = -100002;
    static final long SIZE = -100003;
    static final long KIND = -100004;
    static final long FULL = -100005;
    static final long NONE = -100006;
    static final long LOST = -100007;

    private final String test;
    private String part = "";
    private int asked = 0;
    private int wrong = 0;

    Due(String test) {
        this.test = test;
    }

    void part(String name) {
        part = name;
    }

    void is(String call, long got, long want) {
        asked++;
        if (got != want) {
            wrong++;
            System.out.println(part + ": " + call + " answered " + got + ", due is " + want);
        }
    }

    void holds(String what, boolean truth) {
        asked++;
        if (!truth) {
            wrong++;
            System.out.println(part + ": " + what + " does not hold");
        }
    }

    void end() {
        System.out.println(test + ": " + asked + " asked, " + wrong + " wrong");
        if (wrong != 0) {
            System.exit(1);
        }
    }
}
