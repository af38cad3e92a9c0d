/** Compares answers with the ones that are due, and ends the program by them. */
final class Due {
    static final int INVALID = -2000000001;
    static final int NOT_POSSIBLE = -2000000002;
    static final int LIMIT = -2000000003;
    static final int NOT_FOUND = -2000000004;

    private static int right = 0;
    private static int wrong = 0;

    private Due() {
    }

    /** Tells the line of the test that asked, if the answer is another one. */
    static void due(int promise, long answer, long want) {
        if (answer == want) {
            right++;
            return;
        }
        wrong++;
        StackTraceElement[] calls = new Throwable().getStackTrace();
        System.out.println(calls[1].getFileName() + ":" + calls[1].getLineNumber() + ", promise " + promise
                + ": answered " + answer + ", due is " + want);
    }

    static void end() {
        System.out.println("        " + right + " answers right, " + wrong + " wrong");
        if (wrong != 0 || right == 0) {
            System.exit(1);
        }
    }

    static void type(OhmBridge bridge, String text) {
        bridge.clearText();
        for (int at = 0; at < text.length(); at++) {
            bridge.type(text.charAt(at));
        }
    }

    /** A bridge with a table of three even pieces: a thousandth of a degree is ten of the ratio. */
    static OhmBridge evenTable() {
        OhmBridge bridge = new OhmBridge();
        bridge.table();
        bridge.node(0, -50000, 500000);
        bridge.node(0, 0, 1000000);
        bridge.node(0, 100000, 2000000);
        return bridge;
    }

    /**
     * A bridge that loses nothing by counting (its reference is a power of 2), with a plugged sensor whose
     * resistance is 100000 more than its temperature.
     */
    static OhmBridge exactSensor(int wires) {
        OhmBridge bridge = evenTable();
        bridge.set(0, 131072);
        bridge.sensor(0, wires, 100000);
        bridge.plug(0, 3, 0);
        return bridge;
    }
}
