import java.util.function.IntToLongFunction;

/** Counts what is not as due, for the test programs. */
final class Check {
    /** Far off every bound, some of them numbers that a shift, a cast or a product wraps around. */
    static final int[] WILD = {Integer.MIN_VALUE, Integer.MIN_VALUE + 1, -(1 << 30), -65536, -256, -32, 4096, 65536,
        1 << 20, 1 << 30, Integer.MAX_VALUE - 1, Integer.MAX_VALUE};
    private static final int MOST_TOLD = 20;
    private final String program;
    private int wrong = 0;
    private int all = 0;

    Check(String program) {
        this.program = program;
    }

    boolean due(String call, long want, long got) {
        all++;
        if (want == got) {
            return true;
        }
        wrong++;
        if (wrong <= MOST_TOLD) {
            System.out.println(program + ": " + call + " answered " + got + ", due is " + want);
        }
        return false;
    }

    /** A number of a call that has to be least to most: at both ends good, past them and far off bad. */
    void bounds(String call, int least, int most, long good, long bad, IntToLongFunction made) {
        due(call + " with " + least, good, made.applyAsLong(least));
        due(call + " with " + most, good, made.applyAsLong(most));
        due(call + " with " + (least - 1), bad, made.applyAsLong(least - 1));
        due(call + " with " + (most + 1), bad, made.applyAsLong(most + 1));
        for (int wild : WILD) {
            if (wild < least || wild > most) {
                due(call + " with " + wild, bad, made.applyAsLong(wild));
            }
        }
        // A number that is good, but for a bit that a shift or a cast to fewer bits would lose.
        for (int bit = 17; bit < 32; bit++) {
            due(call + " with " + (least + (1 << bit)), bad, made.applyAsLong(least + (1 << bit)));
            due(call + " with " + (most + (1 << bit)), bad, made.applyAsLong(most + (1 << bit)));
        }
    }

    /** A fraction that was told last. */
    void told(PileCaps o, String call, int i, long above, long below) {
        due(call + ": number(" + i + ", 0)", above, o.number(i, 0));
        due(call + ": number(" + i + ", 1)", below, o.number(i, 1));
    }

    /** Wholes that were told last, and no more than these. */
    void toldWholes(PileCaps o, String call, long... due) {
        for (int i = 0; i < due.length; i++) {
            told(o, call, i, due[i], 1);
        }
        toldInAll(o, call, due.length);
    }

    /** That so many numbers were told last. */
    void toldInAll(PileCaps o, String call, int many) {
        for (int i = 0; i < many; i++) {
            due(call + ": number(" + i + ", 1) is above 0", 1, o.number(i, 1) > 0 ? 1 : 0);
        }
        due(call + ": number(" + many + ", 0)", PileCaps.NONE, o.number(many, 0));
        due(call + ": number(" + many + ", 1)", PileCaps.NONE, o.number(many, 1));
    }

    void end() {
        System.out.println(program + ": " + all + " checks, " + wrong + " wrong");
        if (wrong > 0) {
            System.exit(1);
        }
    }
}
