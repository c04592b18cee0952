/** What the tests of the project share: they name each call whose answer is not the one that is due. */
final class Due {
    static final int MIN = Integer.MIN_VALUE;
    static final int MAX = Integer.MAX_VALUE;

    static final int MARKS = 0;
    static final int HEATS = 1;
    static final int HONEY = 2;
    static final int SWARMS = 3;
    static final int MITES = 4;

    private static int wrong = 0;

    private Due() {
    }

    static void due(String call, long got, long want) {
        if (got != want) {
            wrong++;
            System.out.println(call + " answered " + got + ", due is " + want);
        }
    }

    /** For calls that answer 0 with a fault, of which only fault() tells. */
    static void dueFault(HiveLedger x, String call, int got, int fault) {
        due(call, got, 0);
        due("fault() behind " + call, x.fault(), fault);
    }

    static void dueHoney(String call, int got, float want) {
        due(call + ", honey " + want, got, Float.floatToIntBits(want));
    }

    static int wrongSoFar() {
        return wrong;
    }

    static void end() {
        System.out.println(wrong == 0 ? "all answers are as due" : wrong + " answers are not as due");
        if (wrong != 0) {
            System.exit(1);
        }
    }
}
