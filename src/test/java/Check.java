/** Counts what is not as due, for the test programs. */
final class Check {
    private static final int MOST_TOLD = 20;
    private final String program;
    private int wrong = 0;
    private int all = 0;

    Check(String program) {
        this.program = program;
    }

    boolean due(String call, long want, long got) {
        all++;
        if (want == got) {
            return true;
        }
        wrong++;
        if (wrong <= MOST_TOLD) {
            System.out.println(program + ": " + call + " answered " + got + ", due is " + want);
        }
        return false;
    }

    /** A fraction that was told last. */
    void told(PileCaps o, String call, int i, long above, long below) {
        due(call + ": number(" + i + ", 0)", above, o.number(i, 0));
        due(call + ": number(" + i + ", 1)", below, o.number(i, 1));
    }

    /** That so many numbers were told last. */
    void toldInAll(PileCaps o, String call, int many) {
        for (int i = 0; i < many; i++) {
            due(call + ": number(" + i + ", 1) is above 0", 1, o.number(i, 1) > 0 ? 1 : 0);
        }
        due(call + ": number(" + many + ", 0)", PileCaps.NONE, o.number(many, 0));
        due(call + ": number(" + many + ", 1)", PileCaps.NONE, o.number(many, 1));
    }

    void end() {
        System.out.println(program + ": " + all + " checks, " + wrong + " wrong");
        if (wrong > 0) {
            System.exit(1);
        }
    }
}
