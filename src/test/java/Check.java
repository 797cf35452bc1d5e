/** Counts answers that are due and answers that are not, and tells the latter. */
final class Check {
    private static final int MOST_TOLD = 40;
    private final String name;
    private int right;
    private int wrong;

    Check(String name) {
        this.name = name;
    }

    void due(String call, long want, long got) {
        if (want == got) {
            right++;
            return;
        }
        wrong++;
        if (wrong <= MOST_TOLD) {
            System.out.println(name + ": " + call + " answered " + got + ", due is " + want);
        }
    }

    void holds(String what, boolean so) {
        due(what, 1, so ? 1 : 0);
    }

    int all() {
        return right + wrong;
    }

    int wrongs() {
        return wrong;
    }

    void close() {
        System.out.println(name + ": " + right + " answers as due, " + wrong + " not");
        if (wrong != 0 || right == 0) {
            System.exit(1);
        }
    }
}
