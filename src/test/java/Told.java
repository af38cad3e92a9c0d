/** All that a bridge tells, as one text, in fewer than 400 calls. */
final class Told {
    private static final int[] COUNTED = {0, 1, 2, 3, 4, 5, 6, 7, 10, 11, 12, 20, 21, 22, 23, 24, 25, 26};

    private Told() {
    }

    static String of(OhmBridge bridge) {
        StringBuilder told = new StringBuilder();
        for (int what : COUNTED) {
            put(told, "count " + what, bridge.count(what));
        }
        for (int table = 0; table < bridge.count(0); table++) {
            putTable(told, bridge, table);
        }
        for (int sensor = 0; sensor < bridge.count(1); sensor++) {
            putSensor(told, bridge, sensor);
        }
        for (int place = 0; place < 12; place++) {
            put(told, "place " + place, bridge.slotAt(place / 3, place % 3));
        }
        put(told, "fault", bridge.fault(0));
        put(told, "reason", bridge.fault(1));
        return told.toString();
    }

    private static void putTable(StringBuilder told, OhmBridge bridge, int table) {
        int nodes = bridge.count(10 + table);
        for (int node = 0; node < nodes; node++) {
            put(told, "table " + table + " temperature " + node, bridge.nodeAt(table, node, 0));
            put(told, "table " + table + " ratio " + node, bridge.nodeAt(table, node, 1));
        }
    }

    private static void putSensor(StringBuilder told, OhmBridge bridge, int sensor) {
        for (int what = 0; what <= 18; what++) {
            put(told, "sensor " + sensor + " of " + what, bridge.sensorOf(sensor, what));
        }
        int kept = Math.min(bridge.sensorOf(sensor, 18), 9);
        for (int index = 0; index < kept; index++) {
            put(told, "sensor " + sensor + " reading " + index, bridge.readingAt(sensor, index));
        }
        put(told, "sensor " + sensor + " median", bridge.median(sensor));
        put(told, "sensor " + sensor + " mean", bridge.meanBits(sensor));
        put(told, "sensor " + sensor + " diagnosis", bridge.diagnosis(sensor));
    }

    private static void put(StringBuilder told, String name, int value) {
        told.append(name).append(": ").append(value).append('\n');
    }
}
