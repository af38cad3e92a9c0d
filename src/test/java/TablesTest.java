/** Promises 1 to 6: a new object, and tables. */
public final class TablesTest {
    private TablesTest() {
    }

    public static void main(String[] args) {
        newObject();
        tables();
        nodes();
        fullTable();
        nodesTold();
        ratios();
        inverses();
        inversesOneByOne();
        Due.end();
    }

    private static void newObject() {
        OhmBridge x = new OhmBridge();
        int[] zeros = {0, 1, 2, 3, 4, 6, 7};
        for (int what : zeros) {
            Due.due(1, x.count(what), 0);
        }
        Due.due(1, x.count(5), Due.NOT_FOUND);
        Due.due(1, x.count(10), Due.NOT_FOUND);
        int[] settings = {100000, 1000, 1414, 20, 500, 5000, 3};
        for (int what = 0; what < settings.length; what++) {
            Due.due(1, x.count(20 + what), settings[what]);
        }
        Due.due(1, x.undo(), Due.NOT_POSSIBLE);
        Due.due(1, x.scan(), Due.NOT_POSSIBLE);
        Due.due(1, x.slotAt(0, 0), Due.NOT_FOUND);
        x.table();
        Due.due(1, new OhmBridge().count(0), 0);
        Due.due(1, OhmBridge.INVALID_ARGUMENT, Due.INVALID);
        Due.due(1, OhmBridge.NOT_POSSIBLE, Due.NOT_POSSIBLE);
        Due.due(1, OhmBridge.LIMIT_REACHED, Due.LIMIT);
        Due.due(1, OhmBridge.NOT_FOUND, Due.NOT_FOUND);
    }

    private static void tables() {
        OhmBridge x = new OhmBridge();
        Due.due(2, x.table(), 0);
        Due.due(2, x.count(10), 0);
        Due.due(2, x.table(), 1);
        Due.due(2, x.table(), 2);
        Due.due(2, x.table(), Due.LIMIT);
        Due.due(2, x.count(0), 3);
        Due.due(2, x.count(6), 3);
        Due.due(2, x.undo(), 2);
        Due.due(2, x.count(0), 2);
        Due.due(2, x.table(), 2);
    }

    private static void nodes() {
        OhmBridge x = new OhmBridge();
        Due.due(3, x.node(0, 0, 1), Due.INVALID);
        x.table();
        Due.due(3, x.node(-1, 0, 1), Due.INVALID);
        Due.due(3, x.node(1, 0, 1), Due.INVALID);
        Due.due(3, x.node(0, -200001, 1), Due.INVALID);
        Due.due(3, x.node(0, 850001, 1), Due.INVALID);
        Due.due(3, x.node(0, 0, 0), Due.INVALID);
        Due.due(3, x.node(0, 0, 10000001), Due.INVALID);
        Due.due(3, x.count(6), 1);
        Due.due(3, x.node(0, -200000, 1), 1);
        Due.due(3, x.node(0, -200000, 2), Due.NOT_POSSIBLE);
        Due.due(3, x.node(0, -199999, 1), Due.NOT_POSSIBLE);
        Due.due(3, x.node(0, -200000, 0), Due.INVALID);
        Due.due(3, x.node(0, -199999, 2), 2);
        Due.due(3, x.node(0, 850000, 10000000), 3);
        Due.due(3, x.count(6), 4);
        x.undo();
        Due.due(3, x.count(10), 2);
        x.sensor(0, 2, 1000);
        Due.due(3, x.node(0, 0, 1000), Due.NOT_POSSIBLE);
        x.table();
        Due.due(3, x.node(1, 0, 1000), 1);
        x.undo();
        x.undo();
        x.undo();
        Due.due(3, x.node(0, 0, 1000), 3);
    }

    private static void fullTable() {
        OhmBridge x = new OhmBridge();
        x.table();
        for (int node = 0; node < 12; node++) {
            Due.due(3, x.node(0, node * 10, 10 + node), node + 1);
        }
        Due.due(3, x.node(0, 120, 22), Due.LIMIT);
        Due.due(3, x.node(0, 110, 22), Due.NOT_POSSIBLE);
        Due.due(3, x.node(0, 120, 21), Due.NOT_POSSIBLE);
        Due.due(3, x.node(0, 850001, 22), Due.INVALID);
        Due.due(3, x.count(10), 12);
        Due.due(4, x.nodeAt(0, 11, 0), 110);
        Due.due(4, x.nodeAt(0, 11, 1), 21);
        Due.due(4, x.nodeAt(0, 12, 1), Due.NOT_FOUND);
        Due.due(5, x.ratio(0, 105), 20);
        Due.due(5, x.ratio(0, 110), 21);
        Due.due(6, x.inverse(0, 21), 110);
        x.sensor(0, 2, 1000);
        Due.due(3, x.node(0, 120, 22), Due.NOT_POSSIBLE);
    }

    private static void nodesTold() {
        OhmBridge x = Due.evenTable();
        Due.due(4, x.nodeAt(0, 0, 0), -50000);
        Due.due(4, x.nodeAt(0, 0, 1), 500000);
        Due.due(4, x.nodeAt(0, 2, 0), 100000);
        Due.due(4, x.nodeAt(0, 2, 1), 2000000);
        Due.due(4, x.nodeAt(0, 3, 0), Due.NOT_FOUND);
        Due.due(4, x.nodeAt(0, Integer.MAX_VALUE, 0), Due.NOT_FOUND);
        Due.due(4, x.nodeAt(0, -1, 0), Due.INVALID);
        Due.due(4, x.nodeAt(0, 9, 2), Due.INVALID);
        Due.due(4, x.nodeAt(0, 0, -1), Due.INVALID);
        Due.due(4, x.nodeAt(1, 0, 0), Due.INVALID);
        Due.due(4, x.nodeAt(-1, 0, 0), Due.INVALID);
        Due.due(4, x.count(6), 4);
    }

    private static void ratios() {
        OhmBridge x = new OhmBridge();
        Due.due(5, x.ratio(0, 0), Due.INVALID);
        x.table();
        Due.due(5, x.ratio(0, 0), Due.NOT_FOUND);
        x.node(0, 0, 100);
        Due.due(5, x.ratio(0, 0), Due.NOT_FOUND);
        x.node(0, 7, 200);
        x.node(0, 10, 201);
        Due.due(5, x.ratio(0, 0), 100);
        Due.due(5, x.ratio(0, 1), 114);
        Due.due(5, x.ratio(0, 6), 185);
        Due.due(5, x.ratio(0, 7), 200);
        Due.due(5, x.ratio(0, 9), 200);
        Due.due(5, x.ratio(0, 10), 201);
        Due.due(5, x.ratio(0, 11), Due.NOT_FOUND);
        Due.due(5, x.ratio(0, -1), Due.NOT_FOUND);
        Due.due(5, x.ratio(0, -200001), Due.INVALID);
        Due.due(5, x.ratio(0, 850001), Due.INVALID);
        Due.due(5, x.ratio(0, -200000), Due.NOT_FOUND);
        Due.due(5, x.ratio(1, 0), Due.INVALID);
        Due.due(5, x.ratio(-1, 0), Due.INVALID);
        x.table();
        x.node(1, -200000, 1);
        x.node(1, 850000, 10000000);
        Due.due(5, x.ratio(1, -200000), 1);
        Due.due(5, x.ratio(1, 850000), 10000000);
        Due.due(5, x.ratio(1, 849999), 9999990);
        Due.due(5, x.ratio(1, 325000), 5000000);
    }

    private static void inverses() {
        OhmBridge x = new OhmBridge();
        Due.due(6, x.inverse(0, 1), Due.INVALID);
        x.table();
        Due.due(6, x.inverse(0, 1), Due.NOT_FOUND);
        x.node(0, -5, 100);
        Due.due(6, x.inverse(0, 100), Due.NOT_FOUND);
        x.node(0, 5, 105);
        x.node(0, 8, 120);
        Due.due(6, x.inverse(0, 99), Due.NOT_FOUND);
        Due.due(6, x.inverse(0, 100), -5);
        Due.due(6, x.inverse(0, 101), -3);
        Due.due(6, x.inverse(0, 102), -1);
        Due.due(6, x.inverse(0, 105), 5);
        Due.due(6, x.inverse(0, 106), 6);
        Due.due(6, x.inverse(0, 110), 6);
        Due.due(6, x.inverse(0, 111), 7);
        Due.due(6, x.inverse(0, 120), 8);
        Due.due(6, x.inverse(0, 121), Due.NOT_FOUND);
        Due.due(6, x.inverse(0, 0), Due.INVALID);
        Due.due(6, x.inverse(0, 10000001), Due.INVALID);
        Due.due(6, x.inverse(0, 10000000), Due.NOT_FOUND);
        Due.due(6, x.inverse(-1, 100), Due.INVALID);
        Due.due(6, x.inverse(1, 100), Due.INVALID);
        x.table();
        x.node(1, -200000, 1);
        x.node(1, 850000, 10000000);
        Due.due(6, x.inverse(1, 1), -200000);
        Due.due(6, x.inverse(1, 10000000), 850000);
    }

    /** Every inverse of a small table is looked for among all of its temperatures. */
    private static void inversesOneByOne() {
        int[] temperatures = {-37, -20, -19, 0, 45};
        int[] ratios = {10, 14, 31, 32, 90};
        for (int wanted = 9; wanted <= 91; wanted++) {
            OhmBridge x = new OhmBridge();
            x.table();
            for (int node = 0; node < temperatures.length; node++) {
                x.node(0, temperatures[node], ratios[node]);
            }
            int least = Due.NOT_FOUND;
            for (int t = 45; t >= -37 && wanted >= 10; t--) {
                least = x.ratio(0, t) >= wanted ? t : least;
            }
            Due.due(6, x.inverse(0, wanted), least);
        }
    }
}
