/** Promises 19 to 24: settings, counts, resistances, diagnoses, readings and the scanner. */
public final class MeasuringTest {
    private static final int POWER = 1 << 20;

    private MeasuringTest() {
    }

    public static void main(String[] args) {
        settings();
        countsOfLoops();
        countsAtBounds();
        countsRefused();
        heat();
        resistances();
        resistancesOfExtremes();
        diagnosesInOrder();
        diagnosesAtEdges();
        readings();
        scans();
        scansOfUnfit();
        Due.end();
    }

    private static void settings() {
        int[][] rows = {{10000, 1000000, 100000}, {100, 5000, 1000}, {100, 5000, 1414}, {8, 24, 20}, {0, 50000, 500},
            {0, 100000, 5000}, {1, 9, 3}};
        for (int what = 0; what < rows.length; what++) {
            OhmBridge x = new OhmBridge();
            Due.due(19, x.set(what, rows[what][0] - 1), Due.INVALID);
            Due.due(19, x.set(what, rows[what][1] + 1), Due.INVALID);
            Due.due(19, x.count(6), 0);
            Due.due(19, x.set(what, rows[what][0]), rows[what][2]);
            Due.due(19, x.set(what, rows[what][1]), rows[what][0]);
            Due.due(19, x.count(20 + what), rows[what][1]);
            Due.due(19, x.set(what, rows[what][1]), rows[what][1]);
            Due.due(19, x.count(6), 3);
            x.undo();
            x.undo();
            Due.due(19, x.count(20 + what), rows[what][0]);
        }
        OhmBridge x = new OhmBridge();
        Due.due(19, x.set(7, 0), Due.INVALID);
        Due.due(19, x.set(-1, 0), Due.INVALID);
        Due.due(19, x.set(Integer.MIN_VALUE, 10000), Due.INVALID);
    }

    private static void countsOfLoops() {
        OhmBridge x = Due.exactSensor(3);
        x.lead(0, 0, 100);
        x.lead(0, 1, 20);
        x.lead(0, 2, 3);
        Due.due(20, x.counts(0, 1000, 0, 0), 800960);
        Due.due(20, x.counts(0, 1000, 0, 1), -800960);
        Due.due(20, x.counts(0, 1000, 0, 2), 800960);
        Due.due(20, x.counts(0, 1000, 1, 0), 184);
        Due.due(20, x.counts(0, 1000, 1, 1), -184);
        Due.due(20, x.counts(0, 1000, 1, 2), 184);
        x.strain(0, 1, -1000);
        Due.due(20, x.counts(0, 1000, 0, 0), 800952);
        Due.due(20, x.counts(0, 1000, 0, 1), -800968);
        Due.due(20, x.counts(0, 1000, 0, 2), 800960);
        Due.due(20, x.counts(0, 500, 1, 0), 168);
        Due.due(20, x.counts(0, 500, 1, 1), -200);
        // -8000 / 3000 and 8 * 100123 - 2.6, both rounded toward 0
        Due.due(20, x.counts(0, 3000, 0, 0), 800957);
        Due.due(20, x.counts(0, 3000, 0, 1), -800962);
        Due.due(20, x.counts(0, 3000, 0, 2), 800959);
        x.strain(0, 1, -100000);
        Due.due(20, x.counts(0, 100, 1, 0), 184 - 8000);
        Due.due(20, x.counts(0, 100, 1, 1), -184 - 8000);
        x.strain(0, 1, 0);
        x.strain(0, 2, 1);
        Due.due(20, x.counts(0, 1000, 0, 0), 960);
        Due.due(20, x.counts(0, 1000, 1, 2), 184);
        OhmBridge two = Due.exactSensor(2);
        two.lead(0, 0, 100);
        two.lead(0, 1, 20);
        Due.due(20, two.counts(0, 1000, 0, 2), 800960);
        OhmBridge four = Due.exactSensor(4);
        four.lead(0, 0, 100);
        four.lead(0, 1, 20);
        Due.due(20, four.counts(0, 1000, 0, 2), 800000);
        four.unplug(0);
        four.cut(0, 0, 1);
        Due.due(20, four.counts(0, 1000, 0, 2), 800000);
        four.strain(0, 0, 1000);
        Due.due(20, four.counts(0, 1000, 0, 0), 800800);
        Due.due(20, four.counts(0, 2000, 0, 0), 803200);
        Due.due(20, four.count(6), 4);
    }

    private static void countsAtBounds() {
        OhmBridge x = Due.exactSensor(2);
        x.set(0, 32768);
        x.bath(0, 31071);
        Due.due(20, x.counts(0, 1000, 0, 0), 4 * POWER - 32);
        x.lead(0, 0, 1);
        Due.due(20, x.counts(0, 1000, 0, 0), 4 * POWER);
        Due.due(20, x.counts(0, 1000, 0, 1), -4 * POWER);
        x.lead(0, 0, 2);
        Due.due(20, x.counts(0, 1000, 0, 0), 4 * POWER);
        Due.due(20, x.counts(0, 1000, 0, 1), -4 * POWER);
        Due.due(20, x.counts(0, 1000, 0, 2), 4 * POWER);
        x.set(3, 8);
        Due.due(20, x.counts(0, 1000, 0, 0), 1024);
        x.set(3, 24);
        Due.due(20, x.counts(0, 1000, 0, 1), -(1 << 26));
    }

    private static void countsRefused() {
        OhmBridge x = Due.exactSensor(2);
        Due.due(20, x.counts(-1, 1000, 0, 0), Due.INVALID);
        Due.due(20, x.counts(1, 1000, 0, 0), Due.INVALID);
        Due.due(20, x.counts(0, 99, 0, 0), Due.INVALID);
        Due.due(20, x.counts(0, 5001, 0, 0), Due.INVALID);
        Due.due(20, x.counts(0, 100, 0, 0), 800000);
        Due.due(20, x.counts(0, 5000, 0, 0), 800000);
        Due.due(20, x.counts(0, 1000, -1, 0), Due.INVALID);
        Due.due(20, x.counts(0, 1000, 2, 0), Due.INVALID);
        Due.due(20, x.counts(0, 1000, 0, -1), Due.INVALID);
        Due.due(20, x.counts(0, 1000, 0, 3), Due.INVALID);
        Due.due(20, x.counts(0, 1000, 1, 0), Due.NOT_FOUND);
        Due.due(20, x.counts(0, 1000, 1, 3), Due.INVALID);
        Due.due(20, Due.exactSensor(4).counts(0, 1000, 1, 2), Due.NOT_FOUND);
    }

    private static void heat() {
        OhmBridge x = Due.exactSensor(4);
        x.strain(0, 0, 1000);
        Due.due(21, x.ohms(0, 0), 100100);
        Due.due(21, x.ohms(0, 4), 100199);
        Due.due(21, x.ohms(0, 5), 100001);
        x.set(2, 2000);
        Due.due(21, x.ohms(0, 4), 100400);
        Due.due(21, x.ohms(0, 5), 100000);
        x.set(2, 1000);
        Due.due(21, x.ohms(0, 5), 100100);
        x.set(2, 500);
        Due.due(21, x.ohms(0, 4), 100025);
        Due.due(21, x.ohms(0, 5), 100000);
        x.bath(0, 99999);
        Due.due(21, x.ohms(0, 0), 200000);
        x.strain(0, 2, 1);
        Due.due(21, x.ohms(0, 0), 0);
        Due.due(21, x.ohms(0, 4), 0);
        // 700 * 700 * 149999 / 1000000 = 73499, * 777 / 1000000 = 57
        x.strain(0, 2, 0);
        x.bath(0, 49999);
        x.strain(0, 0, 777);
        x.set(1, 700);
        Due.due(21, x.ohms(0, 0), 150056);
    }

    private static void resistances() {
        OhmBridge x = Due.exactSensor(3);
        x.lead(0, 0, 100);
        x.lead(0, 1, 20);
        x.lead(0, 2, 3);
        x.strain(0, 1, 500);
        Due.due(21, x.ohms(0, 0), 100000);
        Due.due(21, x.ohms(0, 1), 100120);
        Due.due(21, x.ohms(0, 2), 100120);
        Due.due(21, x.ohms(0, 3), 100097);
        x.strain(0, 1, 2000);
        Due.due(21, x.ohms(0, 1), 100122);
        Due.due(21, x.ohms(0, 2), 100120);
        x.drift(0, 10000);
        Due.due(21, x.ohms(0, 0), 101000);
        Due.due(21, x.ohms(0, 3), 101097);
        Due.due(21, x.ohms(0, 6), Due.INVALID);
        Due.due(21, x.ohms(0, -1), Due.INVALID);
        Due.due(21, x.ohms(1, 0), Due.INVALID);
        Due.due(21, x.ohms(-1, 0), Due.INVALID);
        x.unplug(0);
        x.cut(0, 0, 1);
        Due.due(21, x.ohms(0, 3), 101097);
        Due.due(21, x.count(6), 4);
        // 109627 is 1149522.41 counts, and 1149522 counts are 109626.96
        OhmBridge y = Due.evenTable();
        y.sensor(0, 2, 100000);
        y.bath(0, 9627);
        Due.due(21, y.counts(0, 1000, 0, 0), 1149522);
        Due.due(21, y.ohms(0, 1), 109626);
        // the stray voltage alone: -1048.576 counts, and -1048 counts are -99.94
        y.strain(0, 2, 1);
        y.strain(0, 1, -100000);
        Due.due(21, y.ohms(0, 1), -99);
        Due.due(21, y.ohms(0, 2), 0);
    }

    private static void resistancesOfExtremes() {
        OhmBridge x = new OhmBridge();
        x.table();
        x.node(0, 0, 1000000);
        x.node(0, 850000, 10000000);
        x.sensor(0, 4, 100000);
        x.set(0, 524288);
        x.strain(0, 0, 5000);
        x.bath(0, 300000);
        x.set(1, 5000);
        x.set(2, 4999);
        // 417647 at first, warmer by 25000000 * 417647 / 1000000 * 5000 / 1000000 = 52205, or by 52184
        Due.due(21, x.ohms(0, 0), 472922);
        Due.due(21, x.ohms(0, 3), 472922);
        Due.due(21, x.ohms(0, 4), 472900);
        Due.due(21, x.ohms(0, 5), 472922 - 55005);
        // a step between both currents: 2000000 - 1800000 * 25000000 / 9999 would be some -4500000000
        OhmBridge y = new OhmBridge();
        y.table();
        y.node(0, 0, 1000000);
        y.node(0, 24995, 1000001);
        y.node(0, 24996, 10000000);
        y.sensor(0, 4, 200000);
        y.set(0, 1000000);
        y.set(3, 24);
        y.strain(0, 0, 5000);
        y.set(1, 5000);
        y.set(2, 4999);
        Due.due(21, y.ohms(0, 3), 2000000);
        Due.due(21, y.ohms(0, 4), 199999);
        Due.due(21, y.ohms(0, 5), -2000000000);
        y.set(2, 100);
        Due.due(21, y.ohms(0, 5), 2000000 - 1800721);
        y.set(2, 5000);
        Due.due(21, y.ohms(0, 5), 2000000);
        y.set(1, 4999);
        Due.due(21, y.ohms(0, 5), -2000000000);
        y.plug(0, 2, 0);
        Due.due(22, y.diagnosis(0), 3);
    }

    private static void diagnosesInOrder() {
        OhmBridge x = new OhmBridge();
        Due.due(22, x.diagnosis(0), Due.INVALID);
        x = Due.evenTable();
        x.sensor(0, 3, 100000);
        Due.due(22, x.diagnosis(-1), Due.INVALID);
        Due.due(22, x.diagnosis(1), Due.INVALID);
        // all is wrong with it at first, and is then put right one by one
        x.cut(0, 2, 1);
        x.set(0, 10000);
        x.strain(0, 1, -6000);
        x.lead(0, 0, 30000);
        x.lead(0, 2, 50000);
        x.bath(0, -50000);
        x.strain(0, 2, 1);
        Due.due(22, x.diagnosis(0), 1);
        x.plug(0, 1, 0);
        Due.due(22, x.diagnosis(0), 2);
        x.cut(0, 2, 0);
        Due.due(22, x.ohms(0, 5) < 10000 ? 1 : 0, 1);
        Due.due(22, x.diagnosis(0), 3);
        x.strain(0, 2, 0);
        x.lead(0, 2, 0);
        Due.due(22, x.diagnosis(0), 4);
        x.set(0, 100000);
        Due.due(22, x.diagnosis(0), 5);
        x.lead(0, 2, 1000);
        x.lead(0, 0, 0);
        Due.due(22, x.diagnosis(0), 6);
        x.strain(0, 1, 0);
        Due.due(22, x.diagnosis(0), 7);
        x.bath(0, 0);
        Due.due(22, x.diagnosis(0), 0);
        x.undo();
        Due.due(22, x.diagnosis(0), 7);
    }

    private static void diagnosesAtEdges() {
        OhmBridge x = Due.exactSensor(3);
        x.lead(0, 0, 500);
        Due.due(22, x.diagnosis(0), 0);
        x.lead(0, 0, 501);
        Due.due(22, x.diagnosis(0), 5);
        x.lead(0, 0, 0);
        x.lead(0, 1, 501);
        Due.due(22, x.diagnosis(0), 5);
        x.set(4, 501);
        Due.due(22, x.diagnosis(0), 0);
        x.lead(0, 0, 1002);
        Due.due(22, x.diagnosis(0), 0);
        x.lead(0, 0, 1003);
        Due.due(22, x.diagnosis(0), 5);
        x.lead(0, 0, 0);
        x.strain(0, 1, 5000);
        Due.due(22, x.diagnosis(0), 0);
        x.strain(0, 1, 5001);
        Due.due(22, x.diagnosis(0), 6);
        x.strain(0, 1, -5001);
        Due.due(22, x.diagnosis(0), 6);
        x.set(5, 5001);
        Due.due(22, x.diagnosis(0), 0);
        OhmBridge two = Due.exactSensor(2);
        two.lead(0, 0, 900);
        Due.due(22, two.diagnosis(0), 0);
        two.bath(0, 100000);
        Due.due(22, two.diagnosis(0), 7);
        two.lead(0, 0, 0);
        Due.due(22, two.diagnosis(0), 0);
        // 4 * 32768 is the bound; the stray voltage brings the other way alone to it
        two.set(0, 32768);
        two.bath(0, 31072);
        Due.due(22, two.diagnosis(0), 4);
        two.bath(0, 31071);
        Due.due(22, two.diagnosis(0), 0);
        two.strain(0, 1, -1000);
        Due.due(22, two.diagnosis(0), 4);
        two.strain(0, 1, 1000);
        Due.due(22, two.diagnosis(0), 4);
        two.strain(0, 1, -999);
        Due.due(22, two.diagnosis(0), 0);
        two.strain(0, 0, 50);
        two.strain(0, 1, 0);
        two.bath(0, 31060);
        Due.due(22, two.counts(0, 1000, 0, 0) < 4 * POWER ? 1 : 0, 1);
        Due.due(22, two.diagnosis(0), 4);
        OhmBridge low = new OhmBridge();
        low.table();
        low.node(0, 0, 99990);
        low.node(0, 100, 100090);
        low.set(0, 131072);
        low.sensor(0, 4, 100009);
        low.plug(0, 2, 0);
        // 100009 / 10 = 10000; 9999 at 0, 10000 from 1 on
        Due.due(22, low.ohms(0, 5), 9999);
        Due.due(22, low.diagnosis(0), 3);
        low.bath(0, 1);
        Due.due(22, low.ohms(0, 5), 9999);
        low.bath(0, 2);
        Due.due(22, low.ohms(0, 5), 10000);
        Due.due(22, low.diagnosis(0), 0);
    }

    private static void readings() {
        OhmBridge x = Due.exactSensor(3);
        Due.due(23, x.read(-1), Due.INVALID);
        Due.due(23, x.read(1), Due.INVALID);
        x.bath(0, 12345);
        Due.due(23, x.read(0), 12345);
        Due.due(23, x.sensorOf(0, 18), 1);
        Due.due(23, x.count(5), Due.NOT_FOUND);
        x.lead(0, 0, 400);
        Due.due(23, x.read(0), 12745);
        x.bath(0, -50000);
        x.lead(0, 0, 0);
        Due.due(23, x.read(0), -50000);
        x.lead(0, 2, 1);
        Due.due(23, x.read(0), Due.NOT_POSSIBLE);
        Due.due(23, x.sensorOf(0, 18), 3);
        x.undo();
        x.undo();
        Due.due(23, x.sensorOf(0, 18), 2);
        Due.due(23, x.readingAt(0, 0), 12745);
        Due.due(23, x.unplug(0), 30);
        Due.due(23, x.read(0), Due.NOT_POSSIBLE);
        OhmBridge y = Due.exactSensor(4);
        y.drift(0, -10000);
        Due.due(23, y.read(0), -1000);
        y.bath(0, 1);
        Due.due(23, y.ohms(0, 5), 99000);
        Due.due(23, y.read(0), -1000);
    }

    private static void scans() {
        OhmBridge x = Due.evenTable();
        Due.due(24, x.scan(), Due.NOT_POSSIBLE);
        x.set(0, 131072);
        for (int number = 0; number < 4; number++) {
            x.sensor(0, 4, 100000);
        }
        Due.due(24, x.scan(), Due.NOT_POSSIBLE);
        Due.due(24, x.count(5), Due.NOT_FOUND);
        x.plug(3, 2, 0);
        Due.due(24, x.scan(), 3);
        Due.due(24, x.count(5), 20);
        Due.due(24, x.scan(), 3);
        x.plug(2, 2, 2);
        x.plug(1, 3, 2);
        x.plug(0, 2, 1);
        int[][] round = {{0, 21}, {2, 22}, {1, 32}, {3, 20}, {0, 21}};
        for (int[] step : round) {
            Due.due(24, x.scan(), step[0]);
            Due.due(24, x.count(5), step[1]);
        }
        Due.due(24, x.count(4), 7);
        Due.due(24, x.sensorOf(0, 18), 2);
        x.undo();
        Due.due(24, x.count(5), 20);
        Due.due(24, x.sensorOf(0, 18), 1);
        // its place is empty by now, and is the last one all the same
        x.unplug(3);
        Due.due(24, x.scan(), 0);
        x.unplug(0);
        x.unplug(2);
        x.unplug(1);
        Due.due(24, x.scan(), Due.NOT_POSSIBLE);
        Due.due(24, x.count(5), 21);
        x.plug(3, 2, 1);
        Due.due(24, x.scan(), 3);
        x.plug(1, 3, 2);
        Due.due(24, x.scan(), 1);
        x.plug(2, 2, 0);
        Due.due(24, x.scan(), 2);
    }

    private static void scansOfUnfit() {
        OhmBridge last = Due.evenTable();
        last.sensor(0, 2, 100000);
        last.plug(0, 3, 2);
        Due.due(24, last.scan(), 0);
        Due.due(24, last.count(5), 32);
        Due.due(24, last.scan(), 0);
        OhmBridge x = Due.exactSensor(3);
        x.cut(0, 0, 1);
        Due.due(24, x.scan(), -1);
        Due.due(24, x.count(5), 30);
        Due.due(24, x.count(4), 0);
        x.cut(0, 0, 0);
        Due.due(24, x.count(6), 4);
        Due.due(24, x.scan(), 0);
        x.sensor(0, 2, 100000);
        x.plug(1, 0, 0);
        x.strain(1, 2, 1);
        Due.due(24, x.scan(), -2);
        Due.due(24, x.undo(), 3);
        Due.due(24, x.count(5), 30);
        x.limits(1, 1, 2, 0);
        x.strain(1, 2, 0);
        Due.due(24, x.scan(), 1);
        Due.due(24, x.sensorOf(1, 17), 1);
    }
}
