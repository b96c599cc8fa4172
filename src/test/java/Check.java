import java.util.function.IntUnaryOperator;

/** Counts the answers that are not as due, and ends the test with exit code 1 if there was one. */
final class Check {
    private final String part;
    private static int wrong = 0;
    private static int looked = 0;

    Check(String part) {
        this.part = part;
    }

    void due(String call, long got, long want) {
        looked++;
        if (got != want) {
            wrong++;
            System.out.println(part + ": " + call + " answered " + got + ", due is " + want);
        }
    }

    /** Inputs at a boundary and on each side of it, each with the answer that is due. */
    void around(String what, IntUnaryOperator call, int[][] inputsAndDue) {
        for (int[] one : inputsAndDue) {
            due(what + " " + one[0], call.applyAsInt(one[0]), one[1]);
        }
    }

    void holds(String what, boolean is) {
        looked++;
        if (!is) {
            wrong++;
            System.out.println(part + ": " + what);
        }
    }

    static void close() {
        System.out.println(looked + " looked at, " + wrong + " not as due");
        if (wrong != 0 || looked == 0) {
            System.exit(1);
        }
    }
}
