import java.util.List;
import java.util.function.Supplier;
import java.util.function.ToIntFunction;

/**
 * What the tests of boundary cases share: each test is one of a sentence of the document, which it quotes. A
 * section is right if all of its sentences that name a boundary case are quoted.
 */
abstract class Edges {
    static final int INVALID = Due.INVALID;
    static final int NOT_POSSIBLE = Due.NOT_POSSIBLE;
    static final int LIMIT = Due.LIMIT;
    static final int NOT_FOUND = Due.NOT_FOUND;
    static final int MOST_UNDOS = 5;

    private static final Document DOCUMENT = new Document();
    private static String section = "";
    private static String quote = "";
    private static int sentences = 0;
    private static int right = 0;
    private static int wrong = 0;

    /** A call with one argument that changes from row to row. */
    interface Asked {
        int of(OhmBridge bridge, int value);
    }

    /** The sentences under one heading of the document. */
    static void section(String heading, Runnable tests) {
        section = heading;
        quote = "";
        tests.run();
        List<String> left = DOCUMENT.unquotedEdges(heading);
        for (String piece : left) {
            tell("no test quotes: " + piece);
        }
    }

    static void sentence(String words, Runnable test) {
        quote = words;
        if (!DOCUMENT.quote(section, words)) {
            tell("the document does not say so");
        }
        int before = right + wrong;
        test.run();
        if (right + wrong == before) {
            tell("nothing is asked");
        }
        sentences++;
    }

    private static void tell(String fault) {
        wrong++;
        StringBuilder lines = new StringBuilder();
        for (StackTraceElement call : new Throwable().getStackTrace()) {
            if (call.getClassName().endsWith("EdgesTest")) {
                lines.append(' ').append(call.getLineNumber());
            }
        }
        System.out.println(section + ", \"" + quote + "\": " + fault + " (lines" + lines + ")");
    }

    static void due(long answer, long want) {
        if (answer == want) {
            right++;
        } else {
            tell("answered " + answer + ", due is " + want);
        }
    }

    /** That a call returns an error and, with it, everything is as it would be without the call, states included. */
    static void refused(Supplier<OhmBridge> made, ToIntFunction<OhmBridge> call, int error) {
        due(call.applyAsInt(made.get()), error);
        for (int undos = 0; undos <= MOST_UNDOS; undos++) {
            OhmBridge bridge = made.get();
            call.applyAsInt(bridge);
            same(afterUndos(bridge, undos), afterUndos(made.get(), undos));
        }
    }

    private static String afterUndos(OhmBridge bridge, int undos) {
        for (int undo = 0; undo < undos; undo++) {
            bridge.undo();
        }
        return Told.of(bridge);
    }

    static void same(String told, String want) {
        if (told.equals(want)) {
            right++;
            return;
        }
        String[] rows = told.split("\n");
        String[] wanted = want.split("\n");
        int row = 0;
        while (row < rows.length && row < wanted.length && rows[row].equals(wanted[row])) {
            row++;
        }
        tell("told is " + (row < rows.length ? rows[row] : "less") + ", due is "
                + (row < wanted.length ? wanted[row] : "less"));
    }

    static void invalid(Supplier<OhmBridge> made, Asked call, int... values) {
        for (int value : values) {
            refused(made, bridge -> call.of(bridge, value), INVALID);
        }
    }

    /** The last value that is taken and the first one that is refused, at either end. */
    static void range(Supplier<OhmBridge> made, Asked call, int least, int atLeast, int greatest, int atGreatest) {
        due(call.of(made.get(), least), atLeast);
        due(call.of(made.get(), greatest), atGreatest);
        invalid(made, call, least - 1, greatest + 1, Integer.MIN_VALUE, Integer.MAX_VALUE);
    }

    /** That a call takes the numbers of tables which there are, and no other ones. */
    static void tableNumbers(Asked call) {
        invalid(OhmBridge::new, call, 0);
        invalid(Edges::busy, call, -1, 2, 3, Integer.MIN_VALUE, Integer.MAX_VALUE);
        due(call.of(busy(), 0) == INVALID ? 1 : 0, 0);
        due(call.of(busy(), 1) == INVALID ? 1 : 0, 0);
        invalid(Edges::full, call, 3);
        due(call.of(full(), 2) == INVALID ? 1 : 0, 0);
        // a number is no one's again when its table is undone
        invalid(() -> undone(OhmBridge::table), call, 2);
    }

    /** That a call takes the numbers of sensors which there are, and no other ones. */
    static void sensorNumbers(Asked call) {
        invalid(OhmBridge::new, call, 0);
        invalid(Due::evenTable, call, 0);
        invalid(Edges::busy, call, -1, 2, 5, 6, Integer.MIN_VALUE, Integer.MAX_VALUE);
        due(call.of(busy(), 0) == INVALID ? 1 : 0, 0);
        due(call.of(busy(), 1) == INVALID ? 1 : 0, 0);
        invalid(Edges::full, call, 6);
        due(call.of(full(), 5) == INVALID ? 1 : 0, 0);
        invalid(() -> undone(bridge -> bridge.sensor(0, 4, 1000)), call, 2);
    }

    private static OhmBridge undone(ToIntFunction<OhmBridge> change) {
        OhmBridge bridge = busy();
        change.applyAsInt(bridge);
        bridge.undo();
        return bridge;
    }

    /**
     * Two tables, the second one with one node; a sensor with three wires that was read twice and has its alarm on,
     * in card 3, slot 0, and one with two wires of which one is broken, in no slot; the text ends within an order.
     */
    static OhmBridge busy() {
        OhmBridge x = Due.exactSensor(3);
        x.table();
        x.node(1, 300, 5000);
        x.sensor(0, 2, 5000);
        x.limits(0, 6, 7, 1);
        x.read(0);
        x.scan();
        x.lead(0, 0, 9);
        x.strain(0, 1, 40);
        x.cut(1, 1, 1);
        x.set(6, 4);
        Due.type(x, "t0,5;r0");
        return x;
    }

    /** All that can be full is full: tables, nodes, sensors, card 0, kept readings, states, the text. */
    static OhmBridge full() {
        OhmBridge x = new OhmBridge();
        for (int table = 0; table < 3; table++) {
            x.table();
            for (int node = 0; node < 12; node++) {
                x.node(table, node * 100, 1000000 + node * 1000 + table * 10);
            }
        }
        x.set(0, 131072);
        for (int sensor = 0; sensor < 6; sensor++) {
            x.sensor(sensor / 2, 2, 100000);
            x.plug(sensor, sensor / 3 * 3, sensor % 3);
        }
        for (int scan = 0; scan < 11; scan++) {
            x.bath(0, scan);
            x.read(0);
        }
        StringBuilder text = new StringBuilder();
        for (int order = 0; order < 10; order++) {
            text.append("t3,00;");
        }
        Due.type(x, text.toString());
        return x;
    }

    static void end() {
        System.out.println("        " + sentences + " sentences, " + right + " answers right, " + wrong + " wrong");
        if (wrong != 0 || sentences == 0) {
            System.exit(1);
        }
    }
}
