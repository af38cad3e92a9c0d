/** Promises 25 to 29: logs, medians, means, numbers and the history. */
public final class LogsTest {
    private LogsTest() {
    }

    public static void main(String[] args) {
        readingsKept();
        medians();
        means();
        numbers();
        undos();
        changesRecorded();
        errorsChangeNothing();
        lostStates();
        Due.end();
    }

    /** Reads a sensor at each of these temperatures. */
    private static OhmBridge readAt(int... temperatures) {
        OhmBridge x = Due.exactSensor(4);
        for (int temperature : temperatures) {
            x.bath(0, temperature);
            x.read(0);
        }
        return x;
    }

    private static void readingsKept() {
        OhmBridge x = readAt();
        Due.due(25, x.readingAt(0, 0), Due.NOT_FOUND);
        Due.due(25, x.readingAt(0, -1), Due.INVALID);
        Due.due(25, x.readingAt(1, 0), Due.INVALID);
        Due.due(25, x.readingAt(-1, 0), Due.INVALID);
        x = readAt(5, -6, 7);
        Due.due(25, x.readingAt(0, 0), 7);
        Due.due(25, x.readingAt(0, 1), -6);
        Due.due(25, x.readingAt(0, 2), 5);
        Due.due(25, x.readingAt(0, 3), Due.NOT_FOUND);
        x = readAt(1, 2, 3, 4, 5, 6, 7, 8, 9, 10, 11);
        Due.due(25, x.readingAt(0, 0), 11);
        Due.due(25, x.readingAt(0, 8), 3);
        Due.due(25, x.readingAt(0, 9), Due.NOT_FOUND);
        Due.due(25, x.readingAt(0, Integer.MAX_VALUE), Due.NOT_FOUND);
        Due.due(25, x.sensorOf(0, 18), 11);
        x.undo();
        Due.due(25, x.readingAt(0, 0), 10);
        Due.due(25, x.readingAt(0, 8), 2);
        x.sensor(0, 2, 1000);
        Due.due(25, x.readingAt(1, 0), Due.NOT_FOUND);
    }

    private static void medians() {
        OhmBridge x = readAt();
        Due.due(26, x.median(0), Due.NOT_FOUND);
        Due.due(26, x.median(1), Due.INVALID);
        Due.due(26, x.median(-1), Due.INVALID);
        x = readAt(40);
        Due.due(26, x.median(0), 40);
        x = readAt(40, -10);
        Due.due(26, x.median(0), -10);
        x = readAt(90, 40, -10, 80);
        Due.due(26, x.median(0), 40);
        x.set(6, 1);
        Due.due(26, x.median(0), 80);
        x.set(6, 2);
        Due.due(26, x.median(0), -10);
        x.set(6, 4);
        Due.due(26, x.median(0), 40);
        x.set(6, 9);
        Due.due(26, x.median(0), 40);
        Due.due(26, x.readingAt(0, 0), 80);
        x = readAt(5000, 5000, 9, 1, 8, 2, 7, 3, 6, 4, 5);
        x.set(6, 9);
        Due.due(26, x.median(0), 5);
        x.set(6, 8);
        Due.due(26, x.median(0), 4);
        x.set(6, 6);
        Due.due(26, x.median(0), 4);
        x = readAt(3, 3, 1, 1, 1);
        x.set(6, 5);
        Due.due(26, x.median(0), 1);
    }

    private static void means() {
        OhmBridge x = readAt();
        Due.due(27, x.meanBits(0), Due.NOT_FOUND);
        Due.due(27, x.meanBits(1), Due.INVALID);
        Due.due(27, x.meanBits(-1), Due.INVALID);
        Due.due(27, readAt(0).meanBits(0), 0);
        Due.due(27, readAt(5, -5).meanBits(0), 0);
        Due.due(27, readAt(1000).meanBits(0), 0x3F800000);
        Due.due(27, readAt(-1000).meanBits(0), 0xBF800000);
        Due.due(27, readAt(2000).meanBits(0), 0x40000000);
        Due.due(27, readAt(500).meanBits(0), 0x3F000000);
        Due.due(27, readAt(-1500, -1500).meanBits(0), 0xBFC00000);
        Due.due(27, readAt(100000).meanBits(0), 0x42C80000);
        int[][] rows = {{1}, {-1}, {1, 0, 0, 0, 0, 0, 0, 0, 0}, {1, 2, 4}, {99999, 100000}, {-49999, -50000, -50000},
            {333, 1}, {1999}, {2001}, {999}};
        for (int[] row : rows) {
            long sum = 0;
            for (int temperature : row) {
                sum += temperature;
            }
            float mean = (float) ((double) sum / (double) row.length / 1000.0);
            Due.due(27, readAt(row).meanBits(0), Float.floatToIntBits(mean));
        }
        // the first two are not kept any more
        Due.due(27, readAt(90000, 80000, 1000, 1000, 1000, 1000, 1000, 1000, 1000, 1000, 1000).meanBits(0), 0x3F800000);
        // all that are kept count, whatever a median takes
        x = readAt(1, 1, 2);
        x.set(6, 1);
        Due.due(27, x.meanBits(0), Float.floatToIntBits((float) (4.0 / 3.0 / 1000.0)));
    }

    private static void numbers() {
        OhmBridge x = readAt(1, 2);
        x.table();
        x.node(1, 0, 1);
        x.sensor(0, 2, 1000);
        x.sensor(0, 2, 100000);
        x.plug(2, 0, 1);
        x.limits(0, 5, 6, 0);
        x.limits(2, 5, 6, 0);
        x.read(0);
        x.read(2);
        Due.type(x, "abc");
        int[] due = {2, 3, 2, 2, 4, Due.NOT_FOUND, 4, 3, Due.INVALID, Due.INVALID, 3, 1, Due.NOT_FOUND, Due.INVALID};
        for (int what = 0; what < due.length; what++) {
            Due.due(28, x.count(what), due[what]);
        }
        for (int what = 14; what < 20; what++) {
            Due.due(28, x.count(what), Due.INVALID);
        }
        int[] settings = {131072, 1000, 1414, 20, 500, 5000, 3};
        for (int what = 0; what < settings.length; what++) {
            Due.due(28, x.count(20 + what), settings[what]);
        }
        Due.due(28, x.count(-1), Due.INVALID);
        Due.due(28, x.count(27), Due.INVALID);
        Due.due(28, x.count(Integer.MAX_VALUE), Due.INVALID);
        x.scan();
        Due.due(28, x.count(5), 1);
        x.scan();
        Due.due(28, x.count(5), 30);
        x.unplug(0);
        Due.due(28, x.count(2), 1);
        Due.due(28, x.count(3), 2);
        x.table();
        Due.due(28, x.count(12), 0);
    }

    private static void undos() {
        OhmBridge x = new OhmBridge();
        Due.due(29, x.undo(), Due.NOT_POSSIBLE);
        x.set(4, 1);
        Due.due(29, x.count(6), 1);
        Due.due(29, x.undo(), 0);
        Due.due(29, x.count(24), 500);
        Due.due(29, x.undo(), Due.NOT_POSSIBLE);
        for (int value = 1; value <= 6; value++) {
            x.set(4, value);
        }
        Due.due(29, x.count(6), 4);
        for (int left = 3; left >= 0; left--) {
            Due.due(29, x.undo(), left);
            Due.due(29, x.count(24), left + 2);
        }
        Due.due(29, x.undo(), Due.NOT_POSSIBLE);
        Due.due(29, x.count(24), 2);
        x.set(4, 7);
        x.set(4, 8);
        x.undo();
        x.set(4, 9);
        Due.due(29, x.undo(), 1);
        Due.due(29, x.count(24), 7);
        Due.due(29, x.undo(), 0);
        Due.due(29, x.count(24), 2);
        // the text is not of the states
        Due.type(x, "s");
        x.set(4, 3);
        x.type('t');
        x.undo();
        Due.due(29, x.count(7), 2);
        x.set(4, 3);
        x.clearText();
        x.undo();
        Due.due(29, x.count(7), 0);
    }

    /** After one undo, all that sensorOf, readingAt, median and count tell is as it was. */
    private static void changesRecorded() {
        for (int change = 0; change < 16; change++) {
            OhmBridge x = readAt(3, 4);
            x.table();
            x.sensor(0, 2, 5000);
            long before = told(x);
            Due.due(29, changed(x, change) > Due.INVALID ? 1 : 0, 1);
            Due.due(29, change == 15 || told(x) != before ? 1 : 0, 1);
            Due.due(29, x.count(6), 4);
            Due.due(29, x.undo(), 3);
            Due.due(29, told(x), before);
        }
    }

    private static int changed(OhmBridge x, int change) {
        switch (change) {
            case 0: return x.table();
            case 1: return x.node(1, 5, 5);
            case 2: return x.sensor(0, 3, 7000);
            case 3: return x.plug(1, 0, 0);
            case 4: return x.unplug(0);
            case 5: return x.bath(0, 77);
            case 6: return x.lead(0, 3, 1);
            case 7: return x.strain(0, 1, 9);
            case 8: return x.cut(0, 3, 1);
            case 9: return x.drift(0, 20);
            case 10: return x.calibrate(0, 700);
            case 11: return x.limits(0, 1, 2, 3);
            case 12: return x.set(6, 4);
            case 13: return x.read(0);
            case 14: return x.scan();
            default: return x.play();
        }
    }

    private static long told(OhmBridge x) {
        long sum = 0;
        for (int sensor = 0; sensor < 6; sensor++) {
            for (int what = 0; what < 19; what++) {
                sum = sum * 31 + x.sensorOf(sensor, what);
            }
            sum = sum * 31 + x.readingAt(sensor, 0);
            sum = sum * 31 + x.median(sensor);
        }
        int[] counted = {0, 1, 2, 3, 4, 5, 10, 11, 12, 20, 21, 22, 23, 24, 25, 26};
        for (int what : counted) {
            sum = sum * 31 + x.count(what);
        }
        return sum;
    }

    private static void errorsChangeNothing() {
        OhmBridge x = Due.exactSensor(4);
        x.set(4, 1);
        x.set(4, 2);
        x.undo();
        x.undo();
        long before = told(x);
        Due.due(29, x.count(6), 2);
        int[] answers = {x.node(0, 100001, 2000001), x.node(0, -200001, 1), x.sensor(0, 1, 5), x.plug(0, 3, 1),
            x.unplug(1), x.bath(0, 100001), x.lead(0, 4, 9), x.strain(0, 0, -1), x.cut(0, 1, 0), x.drift(0, 100001),
            x.calibrate(0, 100001), x.limits(0, 1, 0, 0), x.set(7, 0), x.read(1)};
        for (int answer : answers) {
            Due.due(29, answer == Due.INVALID || answer == Due.NOT_POSSIBLE ? 1 : 0, 1);
        }
        Due.type(x, "r0;x");
        Due.due(33, x.play(), Due.NOT_POSSIBLE);
        Due.due(29, x.count(6), 2);
        Due.due(29, told(x), before);
        // what only tells is no change either, nor is the text
        int[] only = {x.nodeAt(0, 0, 0), x.ratio(0, 0), x.inverse(0, 1000000), x.slotAt(0, 0), x.sensorOf(0, 0),
            x.counts(0, 1000, 0, 0), x.ohms(0, 0), x.diagnosis(0), x.readingAt(0, 0), x.median(0), x.meanBits(0),
            x.count(0), x.type('a'), x.fault(0), x.clearText()};
        Due.due(29, only.length, 15);
        Due.due(29, x.count(6), 2);
        Due.due(29, told(x), before);
        x.unplug(0);
        Due.due(24, x.scan(), Due.NOT_POSSIBLE);
        Due.due(23, x.read(0), Due.NOT_POSSIBLE);
        Due.due(29, x.count(6), 3);
        x.table();
        x.undo();
        x.undo();
        Due.due(29, told(x), before);
    }

    private static void lostStates() {
        OhmBridge x = Due.exactSensor(4);
        x.bath(0, 10);
        x.read(0);
        x.bath(0, 20);
        x.read(0);
        x.bath(0, 30);
        Due.due(29, x.undo(), 3);
        Due.due(29, x.sensorOf(0, 4), 20);
        Due.due(29, x.undo(), 2);
        Due.due(29, x.count(4), 1);
        Due.due(29, x.undo(), 1);
        Due.due(29, x.sensorOf(0, 4), 10);
        Due.due(29, x.undo(), 0);
        Due.due(29, x.count(4), 0);
        Due.due(29, x.sensorOf(0, 4), 10);
        Due.due(29, x.undo(), Due.NOT_POSSIBLE);
    }
}
