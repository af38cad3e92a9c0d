/** Promises 7 to 18: sensors, their cards and what is done to them. */
public final class SensorsTest {
    private SensorsTest() {
    }

    public static void main(String[] args) {
        sensors();
        firstTemperatures();
        plugs();
        cardsByWires();
        unplugs();
        baths();
        leads();
        strains();
        cuts();
        drifts();
        calibrations();
        calibrationsRefused();
        limits();
        alarms();
        allTold();
        Due.end();
    }

    private static void sensors() {
        OhmBridge x = new OhmBridge();
        Due.due(7, x.sensor(0, 2, 1000), Due.INVALID);
        x.table();
        Due.due(7, x.sensor(0, 2, 1000), Due.NOT_POSSIBLE);
        x.node(0, 0, 1000);
        Due.due(7, x.sensor(0, 2, 1000), Due.NOT_POSSIBLE);
        Due.due(7, x.sensor(0, 1, 1000), Due.INVALID);
        x.node(0, 1, 2000);
        Due.due(7, x.sensor(0, 1, 1000), Due.INVALID);
        Due.due(7, x.sensor(0, 5, 1000), Due.INVALID);
        Due.due(7, x.sensor(0, 2, 999), Due.INVALID);
        Due.due(7, x.sensor(0, 2, 2000001), Due.INVALID);
        Due.due(7, x.sensor(-1, 2, 1000), Due.INVALID);
        Due.due(7, x.sensor(1, 2, 1000), Due.INVALID);
        Due.due(7, x.count(6), 3);
        Due.due(7, x.sensor(0, 2, 1000), 0);
        Due.due(7, x.sensor(0, 4, 2000000), 1);
        Due.due(7, x.count(6), 4);
        Due.due(7, x.count(1), 2);
        for (int number = 2; number < 6; number++) {
            Due.due(7, x.sensor(0, 3, 5000), number);
        }
        Due.due(7, x.sensor(0, 3, 5000), Due.LIMIT);
        x.table();
        Due.due(7, x.sensor(1, 3, 5000), Due.NOT_POSSIBLE);
        Due.due(7, x.sensor(1, 5, 5000), Due.INVALID);
        x.undo();
        x.undo();
        Due.due(7, x.count(1), 5);
        Due.due(7, x.sensorOf(5, 0), Due.INVALID);
        Due.due(7, x.sensor(0, 2, 7000), 5);
        Due.due(7, x.sensorOf(5, 1), 2);
        Due.due(7, x.sensorOf(5, 2), 7000);
    }

    private static void firstTemperatures() {
        int[][] tables = {{-9, 9, 0}, {5, 9, 5}, {-9, -5, -5}, {0, 9, 0}, {-9, 0, 0}};
        for (int[] table : tables) {
            OhmBridge x = new OhmBridge();
            x.table();
            x.node(0, table[0], 1000);
            x.node(0, table[1], 2000);
            x.sensor(0, 2, 1000);
            Due.due(7, x.sensorOf(0, 4), table[2]);
        }
    }

    private static void plugs() {
        OhmBridge x = Due.evenTable();
        for (int number = 0; number < 4; number++) {
            x.sensor(0, 3, 100000);
        }
        Due.due(8, x.plug(-1, 1, 0), Due.INVALID);
        Due.due(8, x.plug(4, 1, 0), Due.INVALID);
        Due.due(8, x.plug(0, -1, 0), Due.INVALID);
        Due.due(8, x.plug(0, 4, 0), Due.INVALID);
        Due.due(8, x.plug(0, 1, -1), Due.INVALID);
        Due.due(8, x.plug(0, 1, 3), Due.INVALID);
        Due.due(8, x.plug(0, 1, 2), 1);
        Due.due(8, x.plug(0, 1, 1), Due.NOT_POSSIBLE);
        Due.due(8, x.plug(1, 1, 2), Due.NOT_POSSIBLE);
        Due.due(8, x.plug(1, 1, 0), 2);
        Due.due(8, x.plug(2, 1, 1), 3);
        Due.due(8, x.plug(3, 3, 0), 1);
        Due.due(8, x.count(2), 4);
        Due.due(10, x.slotAt(1, 2), 0);
        Due.due(10, x.slotAt(1, 0), 1);
        Due.due(10, x.slotAt(1, 1), 2);
        Due.due(10, x.slotAt(3, 0), 3);
        Due.due(10, x.slotAt(3, 1), Due.NOT_FOUND);
        Due.due(10, x.slotAt(0, 0), Due.NOT_FOUND);
        Due.due(10, x.slotAt(-1, 0), Due.INVALID);
        Due.due(10, x.slotAt(4, 0), Due.INVALID);
        Due.due(10, x.slotAt(0, -1), Due.INVALID);
        Due.due(10, x.slotAt(0, 3), Due.INVALID);
        x.undo();
        Due.due(8, x.sensorOf(3, 13), Due.NOT_FOUND);
    }

    private static void cardsByWires() {
        for (int wires = 2; wires <= 4; wires++) {
            for (int card = 0; card <= 3; card++) {
                OhmBridge x = Due.evenTable();
                x.sensor(0, wires, 100000);
                boolean takes = card == 3 || card == wires - 2;
                Due.due(8, x.plug(0, card, 1), takes ? 1 : Due.NOT_POSSIBLE);
                Due.due(8, x.sensorOf(0, 13), takes ? 10 * card + 1 : Due.NOT_FOUND);
            }
        }
    }

    private static void unplugs() {
        OhmBridge x = Due.evenTable();
        Due.due(9, x.unplug(0), Due.INVALID);
        x.sensor(0, 4, 100000);
        Due.due(9, x.unplug(-1), Due.INVALID);
        Due.due(9, x.unplug(0), Due.NOT_POSSIBLE);
        x.plug(0, 2, 2);
        Due.due(9, x.unplug(0), 22);
        Due.due(9, x.slotAt(2, 2), Due.NOT_FOUND);
        Due.due(9, x.unplug(0), Due.NOT_POSSIBLE);
        x.undo();
        Due.due(9, x.slotAt(2, 2), 0);
        Due.due(9, x.unplug(0), 22);
        x.plug(0, 3, 0);
        Due.due(9, x.unplug(0), 30);
    }

    private static void baths() {
        OhmBridge x = Due.evenTable();
        Due.due(11, x.bath(0, 0), Due.INVALID);
        x.sensor(0, 4, 100000);
        Due.due(11, x.bath(0, 100000), 0);
        Due.due(11, x.bath(0, 100001), Due.NOT_POSSIBLE);
        Due.due(11, x.bath(0, -50000), 100000);
        Due.due(11, x.bath(0, -50001), Due.NOT_POSSIBLE);
        Due.due(11, x.bath(0, -200000), Due.NOT_POSSIBLE);
        Due.due(11, x.bath(0, 850000), Due.NOT_POSSIBLE);
        Due.due(11, x.bath(0, -200001), Due.INVALID);
        Due.due(11, x.bath(0, 850001), Due.INVALID);
        Due.due(11, x.bath(1, 0), Due.INVALID);
        Due.due(11, x.sensorOf(0, 4), -50000);
        x.undo();
        Due.due(11, x.sensorOf(0, 4), 100000);
    }

    private static void leads() {
        OhmBridge x = Due.evenTable();
        Due.due(12, x.lead(0, 0, 0), Due.INVALID);
        x.sensor(0, 3, 100000);
        Due.due(12, x.lead(0, 0, 50000), 0);
        Due.due(12, x.lead(0, 0, 0), 50000);
        Due.due(12, x.lead(0, 2, 7), 0);
        Due.due(12, x.lead(0, 2, 8), 7);
        Due.due(12, x.lead(0, 3, 7), Due.INVALID);
        Due.due(12, x.lead(0, -1, 7), Due.INVALID);
        Due.due(12, x.lead(0, 1, -1), Due.INVALID);
        Due.due(12, x.lead(0, 1, 50001), Due.INVALID);
        Due.due(12, x.lead(1, 1, 1), Due.INVALID);
        Due.due(12, x.sensorOf(0, 5), 0);
        Due.due(12, x.sensorOf(0, 7), 8);
        x.undo();
        Due.due(12, x.sensorOf(0, 7), 7);
    }

    private static void strains() {
        OhmBridge x = Due.evenTable();
        Due.due(13, x.strain(0, 0, 0), Due.INVALID);
        x.sensor(0, 3, 100000);
        Due.due(13, x.strain(0, 0, 5000), 0);
        Due.due(13, x.strain(0, 0, 5001), Due.INVALID);
        Due.due(13, x.strain(0, 0, -1), Due.INVALID);
        Due.due(13, x.strain(0, 0, 0), 5000);
        Due.due(13, x.strain(0, 0, 3), 0);
        Due.due(13, x.strain(0, 1, -100000), 0);
        Due.due(13, x.strain(0, 1, 100000), -100000);
        Due.due(13, x.strain(0, 1, -100001), Due.INVALID);
        Due.due(13, x.strain(0, 1, 100001), Due.INVALID);
        Due.due(13, x.strain(0, 2, 1), 0);
        Due.due(13, x.strain(0, 2, 2), Due.INVALID);
        Due.due(13, x.strain(0, 2, -1), Due.INVALID);
        Due.due(13, x.strain(0, 3, 0), Due.INVALID);
        Due.due(13, x.strain(0, -1, 0), Due.INVALID);
        Due.due(13, x.strain(1, 0, 0), Due.INVALID);
        Due.due(13, x.sensorOf(0, 9), 3);
        Due.due(13, x.sensorOf(0, 10), 100000);
        Due.due(13, x.sensorOf(0, 11), 1);
        x.undo();
        Due.due(13, x.sensorOf(0, 11), 0);
    }

    private static void cuts() {
        OhmBridge x = Due.evenTable();
        Due.due(14, x.cut(0, 0, 1), Due.INVALID);
        x.sensor(0, 4, 100000);
        Due.due(14, x.cut(0, 0, 0), Due.NOT_POSSIBLE);
        Due.due(14, x.cut(0, 3, 1), 1);
        Due.due(14, x.cut(0, 1, 1), 2);
        Due.due(14, x.sensorOf(0, 12), 10);
        Due.due(14, x.cut(0, 1, 1), Due.NOT_POSSIBLE);
        Due.due(14, x.cut(0, 0, 1), 3);
        Due.due(14, x.cut(0, 2, 1), 4);
        Due.due(14, x.cut(0, 3, 0), 3);
        Due.due(14, x.sensorOf(0, 12), 7);
        Due.due(14, x.cut(0, 4, 1), Due.INVALID);
        Due.due(14, x.cut(0, -1, 1), Due.INVALID);
        Due.due(14, x.cut(0, 32, 1), Due.INVALID);
        Due.due(14, x.cut(0, 0, 2), Due.INVALID);
        Due.due(14, x.cut(0, 0, -1), Due.INVALID);
        Due.due(14, x.cut(1, 0, 1), Due.INVALID);
        x.undo();
        Due.due(14, x.sensorOf(0, 12), 15);
        x.sensor(0, 2, 100000);
        Due.due(14, x.cut(1, 2, 1), Due.INVALID);
        Due.due(14, x.cut(1, 1, 1), 1);
    }

    private static void drifts() {
        OhmBridge x = Due.evenTable();
        Due.due(15, x.drift(0, 0), Due.INVALID);
        x.sensor(0, 2, 1000);
        Due.due(15, x.drift(0, -1), Due.NOT_POSSIBLE);
        Due.due(15, x.drift(0, 0), 1000);
        Due.due(15, x.drift(0, 999), 1000);
        Due.due(15, x.drift(0, 1000), 1001);
        Due.due(15, x.drift(0, 100000), 1101);
        Due.due(15, x.drift(0, 100001), Due.INVALID);
        Due.due(15, x.drift(0, -100001), Due.INVALID);
        Due.due(15, x.drift(0, -100000), Due.NOT_POSSIBLE);
        Due.due(15, x.drift(1, 0), Due.INVALID);
        Due.due(15, x.sensorOf(0, 2), 1101);
        Due.due(15, x.sensorOf(0, 3), 1000);
        x.undo();
        Due.due(15, x.sensorOf(0, 2), 1001);
        x.sensor(0, 2, 2000000);
        Due.due(15, x.drift(1, 1), Due.NOT_POSSIBLE);
        Due.due(15, x.drift(1, -100000), 1800000);
        Due.due(15, x.drift(1, 100000), 1980000);
        Due.due(15, x.drift(1, 10101), 1999999);
    }

    private static void calibrations() {
        OhmBridge x = Due.exactSensor(4);
        Due.due(16, x.bath(0, 20000), 0);
        Due.due(16, x.calibrate(0, 20000), 100000);
        Due.due(16, x.calibrate(0, 0), 120000);
        Due.due(16, x.sensorOf(0, 3), 120000);
        Due.due(16, x.sensorOf(0, 2), 100000);
        Due.due(16, x.read(0), 0);
        Due.due(16, x.calibrate(0, 10000), 109090);
        Due.due(16, x.read(0), 10001);
        Due.due(16, x.calibrate(0, -200001), Due.INVALID);
        Due.due(16, x.calibrate(0, 850001), Due.INVALID);
        Due.due(16, x.calibrate(1, 0), Due.INVALID);
        Due.due(16, x.calibrate(-1, 0), Due.INVALID);
        Due.due(16, x.calibrate(0, 100001), Due.NOT_POSSIBLE);
        Due.due(16, x.calibrate(0, -50001), Due.NOT_POSSIBLE);
        Due.due(16, x.calibrate(0, 100000), 60000);
        Due.due(16, x.calibrate(0, -50000), 240000);
        x.undo();
        Due.due(16, x.sensorOf(0, 3), 60000);
        x.strain(0, 1, 5001);
        Due.due(16, x.diagnosis(0), 6);
        Due.due(16, x.calibrate(0, 20000), 99999);
    }

    private static void calibrationsRefused() {
        OhmBridge x = Due.exactSensor(3);
        x.unplug(0);
        Due.due(16, x.calibrate(0, 0), Due.NOT_POSSIBLE);
        x.plug(0, 1, 1);
        x.cut(0, 2, 1);
        Due.due(16, x.calibrate(0, 0), Due.NOT_POSSIBLE);
        x.cut(0, 2, 0);
        x.strain(0, 2, 1);
        Due.due(16, x.diagnosis(0), 3);
        Due.due(16, x.calibrate(0, 0), Due.NOT_POSSIBLE);
        x.strain(0, 2, 0);
        x.set(0, 10000);
        Due.due(16, x.diagnosis(0), 4);
        Due.due(16, x.calibrate(0, 0), Due.NOT_POSSIBLE);
        x.set(0, 131072);
        x.lead(0, 0, 600);
        Due.due(16, x.diagnosis(0), 5);
        Due.due(16, x.calibrate(0, 0), 100600);
        OhmBridge y = new OhmBridge();
        y.table();
        y.node(0, 0, 1000);
        y.node(0, 1, 1000000);
        y.node(0, 2, 10000000);
        y.set(0, 131072);
        y.sensor(0, 2, 2000);
        y.sensor(0, 2, 3000);
        y.plug(0, 0, 0);
        y.plug(1, 0, 1);
        y.bath(0, 1);
        y.bath(1, 1);
        Due.due(16, y.calibrate(0, 0), 2000000);
        Due.due(16, y.calibrate(1, 0), Due.NOT_POSSIBLE);
        Due.due(16, y.calibrate(1, 2), Due.NOT_POSSIBLE);
        y.lead(1, 0, 6999);
        Due.due(16, y.calibrate(1, 2), Due.NOT_POSSIBLE);
        y.lead(1, 0, 7000);
        Due.due(16, y.calibrate(1, 2), 1000);
    }

    private static void limits() {
        OhmBridge x = Due.exactSensor(4);
        Due.due(17, x.limits(1, 0, 0, 0), Due.INVALID);
        Due.due(17, x.limits(0, -200001, 0, 0), Due.INVALID);
        Due.due(17, x.limits(0, 0, 850001, 0), Due.INVALID);
        Due.due(17, x.limits(0, 1, 0, 0), Due.INVALID);
        Due.due(17, x.limits(0, 0, 0, -1), Due.INVALID);
        Due.due(17, x.limits(0, 0, 0, 100001), Due.INVALID);
        Due.due(17, x.limits(0, 850001, 850001, 0), Due.INVALID);
        Due.due(17, x.limits(0, -200000, 850000, 100000), 0);
        Due.due(17, x.limits(0, 850000, 850000, 0), 0);
        x.read(0);
        Due.due(17, x.sensorOf(0, 17), 1);
        Due.due(17, x.limits(0, 5, 5, 6), 1);
        Due.due(17, x.sensorOf(0, 17), 0);
        Due.due(17, x.sensorOf(0, 14), 5);
        Due.due(17, x.sensorOf(0, 15), 5);
        Due.due(17, x.sensorOf(0, 16), 6);
        x.undo();
        Due.due(17, x.sensorOf(0, 17), 1);
        Due.due(17, x.sensorOf(0, 14), 850000);
    }

    private static void alarms() {
        OhmBridge x = Due.exactSensor(4);
        x.limits(0, -1000, 2000, 300);
        int[][] steps = {{-1000, 0}, {2000, 0}, {2001, 1}, {2000, 1}, {1701, 1}, {1700, 0}, {1999, 0}, {-1001, 1},
            {-1000, 1}, {-701, 1}, {-700, 0}, {-1001, 1}, {2001, 1}, {-1001, 1}, {0, 0}};
        for (int[] step : steps) {
            x.bath(0, step[0]);
            Due.due(17, x.sensorOf(0, 17), x.count(3));
            Due.due(23, x.read(0), step[0]);
            Due.due(17, x.sensorOf(0, 17), step[1]);
            Due.due(28, x.count(3), step[1]);
        }
        x.limits(0, 0, 10, 6);
        x.bath(0, 11);
        x.read(0);
        x.bath(0, 5);
        x.read(0);
        Due.due(17, x.sensorOf(0, 17), 1);
    }

    private static void allTold() {
        OhmBridge x = Due.exactSensor(3);
        int[] first = {0, 3, 100000, 100000, 0, 0, 0, 0, Due.NOT_FOUND, 0, 0, 0, 0, 30, -200000, 850000, 0, 0, 0};
        for (int what = 0; what < first.length; what++) {
            Due.due(18, x.sensorOf(0, what), first[what]);
        }
        Due.due(18, x.sensorOf(0, -1), Due.INVALID);
        Due.due(18, x.sensorOf(0, 19), Due.INVALID);
        Due.due(18, x.sensorOf(1, 0), Due.INVALID);
        Due.due(18, x.sensorOf(-1, 8), Due.INVALID);
        x.read(0);
        x.lead(0, 0, 11);
        x.lead(0, 1, 12);
        x.lead(0, 2, 13);
        x.strain(0, 0, 14);
        x.strain(0, 1, 15);
        x.drift(0, 10000);
        x.cut(0, 1, 1);
        x.bath(0, -9);
        x.limits(0, -8, -7, 6);
        int[] then = {0, 3, 101000, 100000, -9, 11, 12, 13, Due.NOT_FOUND, 14, 15, 0, 2, 30, -8, -7, 6, 0, 1};
        for (int what = 0; what < then.length; what++) {
            Due.due(18, x.sensorOf(0, what), then[what]);
        }
        x.unplug(0);
        Due.due(18, x.sensorOf(0, 13), Due.NOT_FOUND);
        x.sensor(0, 2, 5000);
        Due.due(18, x.sensorOf(1, 6), 0);
        Due.due(18, x.sensorOf(1, 7), Due.NOT_FOUND);
        x.sensor(0, 4, 5000);
        Due.due(18, x.sensorOf(2, 8), 0);
        x.table();
        x.node(1, 0, 5);
        x.node(1, 9, 50);
        x.sensor(1, 4, 5000);
        Due.due(18, x.sensorOf(3, 0), 1);
    }
}
