/** The boundary cases that promises 1 to 18 name, sentence by sentence: a new object, tables and sensors. */
public final class SetupEdgesTest extends Edges {
    private SetupEdgesTest() {
    }

    public static void main(String[] args) {
        section("Promise 1", SetupEdgesTest::newObject);
        section("Promise 2", SetupEdgesTest::table);
        section("Promise 3", SetupEdgesTest::node);
        section("Promise 4", SetupEdgesTest::nodeAt);
        section("Promise 5", SetupEdgesTest::ratio);
        section("Promise 6", SetupEdgesTest::inverse);
        section("Promise 7", SetupEdgesTest::sensor);
        section("Promise 8", SetupEdgesTest::plug);
        section("Promise 9", SetupEdgesTest::unplug);
        section("Promise 10", SetupEdgesTest::slotAt);
        section("Promise 11", SetupEdgesTest::bath);
        section("Promise 12", SetupEdgesTest::lead);
        section("Promise 13", SetupEdgesTest::strain);
        section("Promise 14", SetupEdgesTest::cut);
        section("Promise 15", SetupEdgesTest::drift);
        section("Promise 16", SetupEdgesTest::calibrate);
        section("Promise 17", SetupEdgesTest::limits);
        section("Promise 18", SetupEdgesTest::sensorOf);
        end();
    }

    private static OhmBridge nodes(int many) {
        OhmBridge x = new OhmBridge();
        x.table();
        for (int node = 0; node < many; node++) {
            x.node(0, node * 10, 1000 + node);
        }
        return x;
    }

    private static OhmBridge widest() {
        OhmBridge x = new OhmBridge();
        x.table();
        x.node(0, -200000, 1);
        x.node(0, 850000, 10000000);
        return x;
    }

    private static OhmBridge widestSensor() {
        OhmBridge x = widest();
        x.sensor(0, 4, 100000);
        return x;
    }

    private static OhmBridge tables(int many) {
        OhmBridge x = new OhmBridge();
        for (int table = 0; table < many; table++) {
            x.table();
        }
        return x;
    }

    private static void newObject() {
        sentence("Creates a bridge without tables and sensors.", () -> {
            OhmBridge x = new OhmBridge();
            due(x.count(0), 0);
            due(x.count(1), 0);
            due(x.count(2), 0);
            due(x.count(6), 0);
            due(x.count(7), 0);
            due(x.nodeAt(0, 0, 0), INVALID);
            due(x.sensorOf(0, 0), INVALID);
            for (int card = 0; card <= 3; card++) {
                for (int slot = 0; slot <= 2; slot++) {
                    due(x.slotAt(card, slot), NOT_FOUND);
                }
            }
            refused(OhmBridge::new, y -> y.scan(), NOT_POSSIBLE);
            refused(OhmBridge::new, y -> y.undo(), NOT_POSSIBLE);
            // each object has its own
            full();
            same(Told.of(new OhmBridge()), Told.of(x));
        });
    }

    private static void table() {
        sentence("Adds a table without nodes.", () -> {
            OhmBridge x = tables(1);
            due(x.count(10), 0);
            due(x.nodeAt(0, 0, 0), NOT_FOUND);
            due(x.ratio(0, 0), NOT_FOUND);
            // where a table with nodes was undone
            OhmBridge y = nodes(3);
            y.undo();
            y.undo();
            y.undo();
            y.undo();
            due(y.count(0), 0);
            due(y.table(), 0);
            due(y.count(10), 0);
        });
        sentence("Returns its number; LIMIT_REACHED if there are 3.", () -> {
            due(tables(0).table(), 0);
            due(tables(1).table(), 1);
            due(tables(2).table(), 2);
            refused(() -> tables(3), x -> x.table(), LIMIT);
            refused(Edges::full, x -> x.table(), LIMIT);
            OhmBridge x = tables(3);
            x.undo();
            due(x.table(), 2);
            due(x.table(), LIMIT);
        });
    }

    private static void node() {
        sentence("`table`: number of the table", () -> tableNumbers((x, table) -> x.node(table, 850000, 10000000)));
        sentence("`temperature`: -200000 to 850000", () -> {
            range(() -> nodes(0), (x, t) -> x.node(0, t, 7), -200000, 1, 850000, 1);
            OhmBridge x = nodes(0);
            x.node(0, -200000, 1);
            due(x.node(0, 850000, 2), 2);
            due(x.nodeAt(0, 0, 0), -200000);
            due(x.nodeAt(0, 1, 0), 850000);
        });
        sentence("`ratio`: 1 to 10000000", () -> {
            range(() -> nodes(0), (x, r) -> x.node(0, 7, r), 1, 1, 10000000, 1);
            due(widest().nodeAt(0, 0, 1), 1);
            due(widest().nodeAt(0, 1, 1), 10000000);
        });
        sentence("Returns how many nodes it has then", () -> {
            for (int many = 0; many < 12; many++) {
                due(nodes(many).node(0, 10 * many, 1000 + many), many + 1);
            }
            OhmBridge x = tables(3);
            due(x.node(2, 0, 1), 1);
            due(x.node(0, 0, 1), 1);
            due(x.node(2, 1, 2), 2);
        });
        sentence("INVALID_ARGUMENT if an argument is out of range", () -> {
            refused(Edges::full, x -> x.node(3, 5, 5), INVALID);
            refused(Edges::full, x -> x.node(0, 850001, 5), INVALID);
            refused(Edges::full, x -> x.node(0, 5, 10000001), INVALID);
        });
        sentence("NOT_POSSIBLE if a sensor is of the table, or the temperature or the ratio is not greater than that of the last node",
                SetupEdgesTest::nodeNotPossible);
        sentence("LIMIT_REACHED if it has 12", () -> {
            due(nodes(11).node(0, 110, 1011), 12);
            refused(() -> nodes(12), x -> x.node(0, 120, 1012), LIMIT);
            refused(() -> nodes(12), x -> x.node(0, 850000, 10000000), LIMIT);
            OhmBridge x = nodes(12);
            x.undo();
            due(x.node(0, 110, 2000), 12);
            x.table();
            due(x.node(1, 0, 1), 1);
        });
    }

    private static void nodeNotPossible() {
        due(nodes(2).node(0, 11, 1002), 3);
        refused(() -> nodes(2), x -> x.node(0, 10, 1002), NOT_POSSIBLE);
        refused(() -> nodes(2), x -> x.node(0, 11, 1001), NOT_POSSIBLE);
        refused(() -> nodes(2), x -> x.node(0, -200000, 10000000), NOT_POSSIBLE);
        refused(() -> nodes(2), x -> x.node(0, 850000, 1), NOT_POSSIBLE);
        OhmBridge x = nodes(2);
        x.table();
        x.sensor(0, 2, 1000);
        due(x.node(0, 11, 1002), NOT_POSSIBLE);
        due(x.node(1, 11, 1002), 1);
        x.undo();
        x.undo();
        due(x.node(0, 11, 1002), 3);
        refused(Edges::full, y -> y.node(2, 850000, 10000000), NOT_POSSIBLE);
        // also a sensor that is in no slot, and one that is not the first
        refused(() -> {
            OhmBridge y = widestSensor();
            y.table();
            y.node(1, 0, 1);
            y.node(1, 1, 2);
            y.sensor(1, 2, 1000);
            return y;
        }, y -> y.node(1, 2, 3), NOT_POSSIBLE);
    }

    private static void nodeAt() {
        sentence("`table`: number of the table", () -> tableNumbers((x, table) -> x.nodeAt(table, 0, 0)));
        sentence("`index`: 0 for the first one, and so on", () -> {
            due(nodes(12).nodeAt(0, 0, 0), 0);
            due(nodes(12).nodeAt(0, 11, 0), 110);
            due(nodes(12).nodeAt(0, 11, 1), 1011);
            due(Due.evenTable().nodeAt(0, 0, 0), -50000);
            due(Due.evenTable().nodeAt(0, 2, 1), 2000000);
        });
        sentence("`what`: 0: its temperature; 1: its ratio", () -> range(() -> nodes(3), (x, what) -> x.nodeAt(0, 1, what), 0, 10, 1, 1001));
        sentence("INVALID_ARGUMENT if an argument is out of range or negative", () -> {
            invalid(() -> nodes(3), (x, index) -> x.nodeAt(0, index, 0), -1, Integer.MIN_VALUE);
            refused(() -> nodes(3), x -> x.nodeAt(0, 3, 2), INVALID);
            refused(() -> nodes(3), x -> x.nodeAt(1, 3, 0), INVALID);
        });
        sentence("NOT_FOUND if there are not so many", () -> {
            refused(() -> nodes(0), x -> x.nodeAt(0, 0, 0), NOT_FOUND);
            due(nodes(3).nodeAt(0, 2, 1), 1002);
            refused(() -> nodes(3), x -> x.nodeAt(0, 3, 1), NOT_FOUND);
            refused(() -> nodes(12), x -> x.nodeAt(0, 12, 0), NOT_FOUND);
            refused(() -> nodes(12), x -> x.nodeAt(0, Integer.MAX_VALUE, 0), NOT_FOUND);
        });
    }

    private static void ratio() {
        sentence("`table`: number of the table", () -> tableNumbers((x, table) -> x.ratio(table, 0)));
        sentence("`temperature`: -200000 to 850000", () -> {
            range(() -> widest(), (x, t) -> x.ratio(0, t), -200000, 1, 850000, 10000000);
            range(() -> nodes(3), (x, t) -> x.ratio(0, t), -200000, NOT_FOUND, 850000, NOT_FOUND);
        });
        sentence("INVALID_ARGUMENT if an argument is out of range", () -> {
            refused(() -> nodes(0), x -> x.ratio(0, 850001), INVALID);
            refused(() -> nodes(0), x -> x.ratio(1, 0), INVALID);
        });
        sentence("NOT_FOUND if the table has fewer than two nodes or does not go there", () -> {
            refused(() -> nodes(0), x -> x.ratio(0, 0), NOT_FOUND);
            refused(() -> nodes(1), x -> x.ratio(0, 0), NOT_FOUND);
            due(nodes(2).ratio(0, 0), 1000);
            refused(() -> nodes(2), x -> x.ratio(0, -1), NOT_FOUND);
            due(nodes(2).ratio(0, 10), 1001);
            refused(() -> nodes(2), x -> x.ratio(0, 11), NOT_FOUND);
            due(nodes(12).ratio(0, 110), 1011);
            refused(() -> nodes(12), x -> x.ratio(0, 111), NOT_FOUND);
        });
    }

    private static void inverse() {
        sentence("`table`: number of the table", () -> tableNumbers((x, table) -> x.inverse(table, 5000)));
        sentence("`ratio`: 1 to 10000000", () -> {
            range(() -> widest(), (x, r) -> x.inverse(0, r), 1, -200000, 10000000, 850000);
            range(() -> nodes(3), (x, r) -> x.inverse(0, r), 1, NOT_FOUND, 10000000, NOT_FOUND);
        });
        sentence("INVALID_ARGUMENT if an argument is out of range", () -> {
            refused(() -> nodes(0), x -> x.inverse(0, 0), INVALID);
            refused(() -> nodes(0), x -> x.inverse(1, 1), INVALID);
        });
        sentence("NOT_FOUND if the table has fewer than two nodes or there is none", () -> {
            refused(() -> nodes(0), x -> x.inverse(0, 1000), NOT_FOUND);
            refused(() -> nodes(1), x -> x.inverse(0, 1000), NOT_FOUND);
            due(nodes(2).inverse(0, 1000), 0);
            refused(() -> nodes(2), x -> x.inverse(0, 999), NOT_FOUND);
            due(nodes(2).inverse(0, 1001), 10);
            refused(() -> nodes(2), x -> x.inverse(0, 1002), NOT_FOUND);
            due(nodes(12).inverse(0, 1011), 110);
            refused(() -> nodes(12), x -> x.inverse(0, 1012), NOT_FOUND);
        });
    }

    private static OhmBridge sensors(int many) {
        OhmBridge x = Due.evenTable();
        for (int sensor = 0; sensor < many; sensor++) {
            x.sensor(0, 3, 100000);
        }
        return x;
    }

    private static void sensor() {
        sentence("`table`: number of the table", () -> tableNumbers((x, table) -> x.sensor(table, 2, 1000)));
        sentence("`wires`: 2 to 4", () -> {
            range(Due::evenTable, (x, wires) -> x.sensor(0, wires, 1000), 2, 0, 4, 0);
            OhmBridge x = Due.evenTable();
            for (int wires = 2; wires <= 4; wires++) {
                x.sensor(0, wires, 1000);
                due(x.sensorOf(wires - 2, 1), wires);
            }
        });
        sentence("`base`: both its bases, 1000 to 2000000", () -> {
            range(Due::evenTable, (x, base) -> x.sensor(0, 2, base), 1000, 0, 2000000, 0);
            OhmBridge x = Due.evenTable();
            x.sensor(0, 2, 1000);
            due(x.sensorOf(0, 2), 1000);
            due(x.sensorOf(0, 3), 1000);
        });
        sentence("Returns its number", () -> {
            for (int many = 0; many < 6; many++) {
                due(sensors(many).sensor(0, 2, 1000), many);
            }
        });
        sentence("INVALID_ARGUMENT if an argument is out of range", () -> {
            refused(() -> nodes(1), x -> x.sensor(0, 5, 1000), INVALID);
            refused(() -> nodes(1), x -> x.sensor(0, 2, 999), INVALID);
            refused(Edges::full, x -> x.sensor(0, 2, 2000001), INVALID);
            refused(Edges::full, x -> x.sensor(3, 2, 1000), INVALID);
        });
        sentence("NOT_POSSIBLE if the table has fewer than two nodes", () -> {
            refused(() -> nodes(0), x -> x.sensor(0, 2, 1000), NOT_POSSIBLE);
            refused(() -> nodes(1), x -> x.sensor(0, 2, 1000), NOT_POSSIBLE);
            due(nodes(2).sensor(0, 2, 1000), 0);
        });
        sentence("LIMIT_REACHED if there are 6", () -> {
            due(sensors(5).sensor(0, 2, 1000), 5);
            refused(() -> sensors(6), x -> x.sensor(0, 2, 1000), LIMIT);
            OhmBridge x = sensors(6);
            x.undo();
            due(x.sensor(0, 2, 1000), 5);
        });
    }

    private static void plug() {
        sentence("`sensor`: number of the sensor", () -> sensorNumbers((x, sensor) -> x.plug(sensor, 3, 2)));
        sentence("`card`: 0 to 3", () -> {
            range(() -> ofBase(1000), (x, card) -> x.plug(0, card, 0), 0, 1, 3, 1);
            invalid(() -> sensors(1), (x, card) -> x.plug(0, card, 0), -1, 4);
        });
        sentence("`slot`: 0 to 2", () -> {
            range(() -> sensors(1), (x, slot) -> x.plug(0, 1, slot), 0, 1, 2, 1);
            OhmBridge x = sensors(1);
            x.plug(0, 3, 2);
            due(x.slotAt(3, 2), 0);
        });
        sentence("Returns how many slots of the card are taken then", () -> {
            OhmBridge x = sensors(6);
            due(x.plug(5, 1, 2), 1);
            due(x.plug(4, 3, 0), 1);
            due(x.plug(3, 1, 0), 2);
            due(x.plug(2, 1, 1), 3);
            due(x.plug(1, 3, 2), 2);
            due(x.plug(0, 3, 1), 3);
            due(x.count(2), 6);
        });
        sentence("INVALID_ARGUMENT if an argument is out of range", () -> {
            refused(Edges::full, x -> x.plug(0, 4, 0), INVALID);
            refused(Edges::full, x -> x.plug(0, 0, 3), INVALID);
            refused(Edges::full, x -> x.plug(6, 0, 0), INVALID);
        });
        sentence("NOT_POSSIBLE if it is plugged, the slot is taken, or the card does not take sensors with so many wires", () -> {
            refused(Edges::busy, x -> x.plug(0, 1, 0), NOT_POSSIBLE);
            refused(Edges::busy, x -> x.plug(0, 3, 0), NOT_POSSIBLE);
            refused(Edges::busy, x -> x.plug(1, 3, 0), NOT_POSSIBLE);
            due(busy().plug(1, 3, 1), 2);
            refused(Edges::busy, x -> x.plug(1, 1, 0), NOT_POSSIBLE);
            refused(Edges::busy, x -> x.plug(1, 2, 0), NOT_POSSIBLE);
            due(busy().plug(1, 0, 0), 1);
            // free again
            OhmBridge x = busy();
            x.unplug(0);
            due(x.plug(1, 3, 0), 1);
            due(x.plug(0, 3, 0), NOT_POSSIBLE);
            due(x.plug(0, 1, 0), 1);
        });
    }

    private static int unplugged(int card, int slot) {
        OhmBridge x = Due.evenTable();
        x.sensor(0, card == 3 ? 2 : card + 2, 1000);
        x.plug(0, card, slot);
        return x.unplug(0);
    }

    private static void unplug() {
        sentence("`sensor`: number of the sensor", () -> sensorNumbers((x, sensor) -> x.unplug(sensor)));
        sentence("Returns ten times its card plus its slot; INVALID_ARGUMENT; NOT_POSSIBLE if it is not plugged.", () -> {
            for (int card = 0; card <= 3; card++) {
                for (int slot = 0; slot <= 2; slot++) {
                    due(unplugged(card, slot), 10 * card + slot);
                }
            }
            refused(() -> sensors(1), x -> x.unplug(0), NOT_POSSIBLE);
            refused(Edges::busy, x -> x.unplug(1), NOT_POSSIBLE);
            refused(() -> sensors(1), x -> x.unplug(1), INVALID);
            OhmBridge x = busy();
            due(x.unplug(0), 30);
            due(x.unplug(0), NOT_POSSIBLE);
            due(x.slotAt(3, 0), NOT_FOUND);
        });
    }

    private static void slotAt() {
        sentence("`card`: 0 to 3", () -> range(Edges::full, (x, card) -> x.slotAt(card, 2), 0, 2, 3, 5));
        sentence("`slot`: 0 to 2", () -> range(Edges::full, (x, slot) -> x.slotAt(3, slot), 0, 3, 2, 5));
        sentence("Returns the number of the sensor; INVALID_ARGUMENT if an argument is out of range", () -> {
            for (int slot = 0; slot <= 2; slot++) {
                due(full().slotAt(0, slot), slot);
                due(full().slotAt(3, slot), 3 + slot);
            }
            refused(Edges::full, x -> x.slotAt(0, 3), INVALID);
            refused(Edges::full, x -> x.slotAt(4, 0), INVALID);
            refused(Edges::full, x -> x.slotAt(-1, 3), INVALID);
        });
        sentence("NOT_FOUND if the slot is free", () -> {
            refused(Edges::full, x -> x.slotAt(1, 0), NOT_FOUND);
            refused(Edges::full, x -> x.slotAt(2, 2), NOT_FOUND);
            refused(OhmBridge::new, x -> x.slotAt(0, 0), NOT_FOUND);
            OhmBridge x = full();
            x.unplug(0);
            due(x.slotAt(0, 0), NOT_FOUND);
            x.undo();
            due(x.slotAt(0, 0), 0);
        });
    }

    private static void bath() {
        sentence("`sensor`: number of the sensor", () -> sensorNumbers((x, sensor) -> x.bath(sensor, 0)));
        sentence("`temperature`: -200000 to 850000", () -> {
            range(() -> widestSensor(), (x, t) -> x.bath(0, t), -200000, 0, 850000, 0);
            range(Edges::busy, (x, t) -> x.bath(0, t), -200000, NOT_POSSIBLE, 850000, NOT_POSSIBLE);
        });
        sentence("Returns the temperature that it was at", () -> {
            OhmBridge x = widestSensor();
            due(x.bath(0, -200000), 0);
            due(x.bath(0, 850000), -200000);
            due(x.bath(0, 850000), 850000);
            due(x.sensorOf(0, 4), 850000);
        });
        sentence("INVALID_ARGUMENT if an argument is out of range", () -> {
            refused(Edges::busy, x -> x.bath(0, -200001), INVALID);
            refused(Edges::busy, x -> x.bath(2, 100001), INVALID);
        });
        sentence("NOT_POSSIBLE if its table does not go there", () -> {
            due(busy().bath(0, 100000), 0);
            refused(Edges::busy, x -> x.bath(0, 100001), NOT_POSSIBLE);
            due(busy().bath(0, -50000), 0);
            refused(Edges::busy, x -> x.bath(0, -50001), NOT_POSSIBLE);
            // its own table, not the first one
            OhmBridge x = busy();
            x.node(1, 310, 5100);
            x.sensor(1, 2, 1000);
            due(x.bath(2, 0), NOT_POSSIBLE);
            due(x.bath(2, 311), NOT_POSSIBLE);
            due(x.bath(2, 310), 300);
            due(x.bath(2, 299), NOT_POSSIBLE);
            due(x.bath(2, 300), 310);
        });
    }

    private static void lead() {
        sentence("`sensor`: number of the sensor", () -> sensorNumbers((x, sensor) -> x.lead(sensor, 0, 5)));
        sentence("`wire`: 0 to its wires minus 1", () -> {
            for (int wires = 2; wires <= 4; wires++) {
                int many = wires;
                range(() -> Due.exactSensor(many), (x, wire) -> x.lead(0, wire, 5), 0, 0, many - 1, 0);
            }
            OhmBridge x = Due.exactSensor(4);
            for (int wire = 0; wire < 4; wire++) {
                x.lead(0, wire, 10 + wire);
            }
            for (int wire = 0; wire < 4; wire++) {
                due(x.sensorOf(0, 5 + wire), 10 + wire);
            }
        });
        sentence("`lead`: 0 to 50000", () -> range(() -> Due.exactSensor(4), (x, lead) -> x.lead(0, 3, lead), 0, 0, 50000, 0));
        sentence("Returns what it was; INVALID_ARGUMENT if an argument is out of range.", () -> {
            OhmBridge x = Due.exactSensor(2);
            due(x.lead(0, 1, 50000), 0);
            due(x.lead(0, 1, 0), 50000);
            due(x.lead(0, 1, 1), 0);
            due(x.lead(0, 0, 1), 0);
            refused(Edges::busy, y -> y.lead(0, 3, 50001), INVALID);
            refused(Edges::busy, y -> y.lead(2, 0, 0), INVALID);
        });
    }

    private static void strain() {
        sentence("`sensor`: number of the sensor", () -> sensorNumbers((x, sensor) -> x.strain(sensor, 1, 5)));
        sentence("`what`: 0: the heating; 1: the stray voltage; 2: whether it is shorted", () -> {
            range(Edges::busy, (x, what) -> x.strain(0, what, 1), 0, 0, 2, 0);
            OhmBridge x = Due.exactSensor(4);
            x.strain(0, 0, 5000);
            x.strain(0, 1, -9);
            x.strain(0, 2, 1);
            due(x.sensorOf(0, 9), 5000);
            due(x.sensorOf(0, 10), -9);
            due(x.sensorOf(0, 11), 1);
        });
        sentence("`value`: 0 to 5000; -100000 to 100000; 0 or 1", () -> {
            range(Edges::busy, (x, value) -> x.strain(0, 0, value), 0, 0, 5000, 0);
            range(Edges::busy, (x, value) -> x.strain(0, 1, value), -100000, 40, 100000, 40);
            range(Edges::busy, (x, value) -> x.strain(0, 2, value), 0, 0, 1, 0);
        });
        sentence("Returns what it was; INVALID_ARGUMENT if an argument is out of range.", () -> {
            OhmBridge x = Due.exactSensor(4);
            due(x.strain(0, 0, 5000), 0);
            due(x.strain(0, 0, 0), 5000);
            due(x.strain(0, 1, -100000), 0);
            due(x.strain(0, 1, 100000), -100000);
            due(x.strain(0, 1, 0), 100000);
            due(x.strain(0, 2, 1), 0);
            due(x.strain(0, 2, 1), 1);
            due(x.strain(0, 2, 0), 1);
            refused(Edges::busy, y -> y.strain(0, 3, 0), INVALID);
            refused(Edges::busy, y -> y.strain(2, 0, 0), INVALID);
        });
    }

    private static void cut() {
        sentence("`sensor`: number of the sensor", () -> sensorNumbers((x, sensor) -> x.cut(sensor, 0, 1)));
        sentence("`wire`: 0 to its wires minus 1", () -> {
            for (int wires = 2; wires <= 4; wires++) {
                int many = wires;
                range(() -> Due.exactSensor(many), (x, wire) -> x.cut(0, wire, 1), 0, 1, many - 1, 1);
                invalid(() -> Due.exactSensor(many), (x, wire) -> x.cut(0, wire, 1), 31, 32, 33, 64);
            }
        });
        sentence("`broken`: 1 or 0", () -> range(Edges::busy, (x, broken) -> x.cut(0, 0, broken), 0, NOT_POSSIBLE, 1, 1));
        sentence("Returns how many of its wires are broken then", () -> {
            OhmBridge x = Due.exactSensor(4);
            due(x.cut(0, 3, 1), 1);
            due(x.sensorOf(0, 12), 8);
            due(x.cut(0, 0, 1), 2);
            due(x.cut(0, 2, 1), 3);
            due(x.cut(0, 1, 1), 4);
            due(x.sensorOf(0, 12), 15);
            due(x.cut(0, 2, 0), 3);
            due(x.cut(0, 0, 0), 2);
            due(x.cut(0, 1, 0), 1);
            due(x.cut(0, 3, 0), 0);
            due(x.sensorOf(0, 12), 0);
        });
        sentence("INVALID_ARGUMENT if an argument is out of range", () -> {
            refused(Edges::busy, x -> x.cut(1, 2, 1), INVALID);
            refused(Edges::busy, x -> x.cut(1, 1, 2), INVALID);
            refused(Edges::busy, x -> x.cut(2, 0, 1), INVALID);
        });
        sentence("NOT_POSSIBLE if it is so already", () -> {
            refused(Edges::busy, x -> x.cut(1, 1, 1), NOT_POSSIBLE);
            refused(Edges::busy, x -> x.cut(1, 0, 0), NOT_POSSIBLE);
            due(busy().cut(1, 1, 0), 0);
            due(busy().cut(1, 0, 1), 2);
        });
    }

    private static OhmBridge ofBase(int base) {
        OhmBridge x = Due.evenTable();
        x.sensor(0, 2, base);
        return x;
    }

    private static void drift() {
        sentence("it is multiplied by 1000000 plus the millionths, and divided by 1000000", () -> {
            due(ofBase(100000).drift(0, 9), 100000);
            due(ofBase(100000).drift(0, 10), 100001);
            due(ofBase(100000).drift(0, -1), 99999);
            due(ofBase(100000).drift(0, -10), 99999);
            due(ofBase(100000).drift(0, -11), 99998);
            OhmBridge x = ofBase(100000);
            x.drift(0, 100000);
            due(x.sensorOf(0, 2), 110000);
            due(x.sensorOf(0, 3), 100000);
        });
        sentence("`sensor`: number of the sensor", () -> sensorNumbers((x, sensor) -> x.drift(sensor, 0)));
        sentence("`millionths`: -100000 to 100000", () ->
                range(() -> ofBase(100000), (x, millionths) -> x.drift(0, millionths), -100000, 90000, 100000, 110000));
        sentence("Returns the true base then; INVALID_ARGUMENT if an argument is out of range", () -> {
            due(ofBase(1000).drift(0, 0), 1000);
            due(ofBase(2000000).drift(0, 0), 2000000);
            refused(() -> ofBase(2000000), x -> x.drift(0, 100001), INVALID);
            refused(() -> ofBase(1000), x -> x.drift(0, -100001), INVALID);
            refused(() -> ofBase(1000), x -> x.drift(1, -1), INVALID);
        });
        sentence("NOT_POSSIBLE if it would leave its range", () -> {
            // 1112 * 0.9 is 1000.8, 1111 * 0.9 is 999.9
            due(ofBase(1112).drift(0, -100000), 1000);
            refused(() -> ofBase(1111), x -> x.drift(0, -100000), NOT_POSSIBLE);
            refused(() -> ofBase(1000), x -> x.drift(0, -1), NOT_POSSIBLE);
            // 1818182 * 1.1 is 2000000.2, 1818183 * 1.1 is 2000001.3
            due(ofBase(1818182).drift(0, 100000), 2000000);
            refused(() -> ofBase(1818183), x -> x.drift(0, 100000), NOT_POSSIBLE);
            refused(() -> ofBase(2000000), x -> x.drift(0, 1), NOT_POSSIBLE);
            due(ofBase(1999999).drift(0, 1), 2000000);
        });
    }

    /** A plugged sensor whose resistance is that of its base at 0, a tenth more at 1, a tenth of it and a bit at -1. */
    private static OhmBridge toCalibrate(int base) {
        OhmBridge x = new OhmBridge();
        x.table();
        x.node(0, -1, 100001);
        x.node(0, 0, 1000000);
        x.node(0, 1, 1100000);
        x.set(0, 524288);
        x.sensor(0, 3, base);
        x.plug(0, 1, 0);
        return x;
    }

    private static OhmBridge diagnosed(int diagnosis) {
        OhmBridge x = toCalibrate(100000);
        if (diagnosis == 1) {
            x.unplug(0);
        } else if (diagnosis == 2) {
            x.cut(0, 2, 1);
        } else if (diagnosis == 3) {
            x.strain(0, 2, 1);
        } else if (diagnosis == 4) {
            x.set(0, 25000);
        } else if (diagnosis == 5) {
            x.lead(0, 0, 501);
        } else if (diagnosis == 6) {
            x.strain(0, 1, 5001);
        } else if (diagnosis == 7) {
            x.lead(0, 0, 500);
            x.bath(0, 1);
        }
        due(x.diagnosis(0), diagnosis);
        return x;
    }

    private static OhmBridge withLead(OhmBridge bridge, int lead) {
        bridge.lead(0, 0, lead);
        return bridge;
    }

    private static OhmBridge bathed(OhmBridge bridge, int temperature) {
        bridge.bath(0, temperature);
        return bridge;
    }

    private static void calibrate() {
        sentence("its assumed base becomes (its resistance without power) * 1000000 / (the ratio at this temperature)", () -> {
            OhmBridge x = toCalibrate(100000);
            due(x.calibrate(0, 1), 90909);
            due(x.sensorOf(0, 3), 90909);
            due(x.sensorOf(0, 2), 100000);
            due(x.calibrate(0, -1), 999990);
            due(x.calibrate(0, 0), 100000);
        });
        sentence("`sensor`: number of the sensor", () -> sensorNumbers((x, sensor) -> x.calibrate(sensor, 0)));
        sentence("`temperature`: -200000 to 850000", () -> {
            range(() -> toCalibrate(100000), (x, t) -> x.calibrate(0, t), -200000, NOT_POSSIBLE, 850000, NOT_POSSIBLE);
            OhmBridge x = new OhmBridge();
            x.table();
            x.node(0, -200000, 500000);
            x.node(0, 850000, 2000000);
            x.set(0, 131072);
            x.sensor(0, 4, 100000);
            x.plug(0, 2, 0);
            x.bath(0, 850000);
            due(x.calibrate(0, -200000), 400000);
            due(x.calibrate(0, 850000), 100000);
        });
        sentence("Returns the assumed base then; INVALID_ARGUMENT if an argument is out of range", () -> {
            due(toCalibrate(100000).calibrate(0, 0), 100000);
            refused(() -> diagnosed(1), x -> x.calibrate(0, 850001), INVALID);
            refused(() -> diagnosed(1), x -> x.calibrate(0, -200001), INVALID);
            refused(() -> diagnosed(1), x -> x.calibrate(1, 5), INVALID);
        });
        sentence("NOT_POSSIBLE if its diagnosis is 1 to 4, its table does not go there, or the assumed base would leave its range",
                SetupEdgesTest::calibrateNotPossible);
    }

    private static void calibrateNotPossible() {
        due(diagnosed(0).calibrate(0, 0), 100000);
        for (int diagnosis = 1; diagnosis <= 4; diagnosis++) {
            int fault = diagnosis;
            refused(() -> diagnosed(fault), x -> x.calibrate(0, 0), NOT_POSSIBLE);
        }
        due(diagnosed(5).calibrate(0, 0), 100501);
        // 200010 counts one way, 199989 the other way: half of both is 199999, and 2 of them are one
        due(diagnosed(6).calibrate(0, 0), 99999);
        due(diagnosed(7).calibrate(0, 0), 110500);
        refused(() -> toCalibrate(100000), x -> x.calibrate(0, 2), NOT_POSSIBLE);
        due(toCalibrate(100000).calibrate(0, 1), 90909);
        refused(() -> toCalibrate(100000), x -> x.calibrate(0, -2), NOT_POSSIBLE);
        due(toCalibrate(100000).calibrate(0, -1), 999990);
        // 2000000 at 0 are taken, one more is not; 1099 / 1.1 is 999.09
        due(toCalibrate(2000000).calibrate(0, 0), 2000000);
        refused(() -> withLead(toCalibrate(2000000), 1), x -> x.calibrate(0, 0), NOT_POSSIBLE);
        due(withLead(toCalibrate(1999999), 1).calibrate(0, 0), 2000000);
        due(withLead(toCalibrate(1000), 100).calibrate(0, 1), 1000);
        refused(() -> withLead(toCalibrate(1000), 99), x -> x.calibrate(0, 1), NOT_POSSIBLE);
        due(bathed(toCalibrate(1000), 1).calibrate(0, 1), 1000);
        refused(() -> bathed(toCalibrate(1000), -1), x -> x.calibrate(0, 0), NOT_POSSIBLE);
    }

    private static void limits() {
        sentence("its alarm goes off", () -> {
            OhmBridge x = busy();
            due(x.sensorOf(0, 17), 1);
            due(x.limits(0, 6, 7, 1), 1);
            due(x.sensorOf(0, 17), 0);
            due(x.count(3), 0);
            x.undo();
            due(x.sensorOf(0, 17), 1);
        });
        sentence("`sensor`: number of the sensor", () -> sensorNumbers((x, sensor) -> x.limits(sensor, 0, 0, 0)));
        sentence("`low`: -200000 to 850000", () ->
                range(Edges::busy, (x, low) -> x.limits(0, low, 850000, 0), -200000, 1, 850000, 1));
        sentence("`high`: low to 850000", () -> {
            range(Edges::busy, (x, high) -> x.limits(0, 5, high, 0), 5, 1, 850000, 1);
            range(Edges::busy, (x, high) -> x.limits(0, -200000, high, 0), -200000, 1, 850000, 1);
            range(Edges::busy, (x, high) -> x.limits(0, 850000, high, 0), 850000, 1, 850000, 1);
        });
        sentence("`hysteresis`: 0 to 100000", () -> {
            range(Edges::busy, (x, slack) -> x.limits(0, 5, 5, slack), 0, 1, 100000, 1);
            OhmBridge x = busy();
            x.limits(0, -200000, 850000, 100000);
            due(x.sensorOf(0, 14), -200000);
            due(x.sensorOf(0, 15), 850000);
            due(x.sensorOf(0, 16), 100000);
        });
        sentence("Returns 1 if its alarm was on, otherwise 0; INVALID_ARGUMENT if an argument is out of range.", () -> {
            OhmBridge x = busy();
            due(x.limits(1, 0, 0, 0), 0);
            due(x.limits(0, 0, 0, 0), 1);
            due(x.limits(0, 0, 0, 0), 0);
            refused(Edges::busy, y -> y.limits(0, 850001, 850001, 0), INVALID);
            refused(Edges::busy, y -> y.limits(0, 8, 7, 0), INVALID);
            refused(Edges::busy, y -> y.limits(2, 8, 9, 0), INVALID);
        });
    }

    private static void sensorOf() {
        sentence("`sensor`: number of the sensor", () -> sensorNumbers((x, sensor) -> x.sensorOf(sensor, 0)));
        sentence("`what`: 0: its table; 1: its wires; 2: its true base; 3: its assumed base; 4: the temperature that it is at; 5 to 8: the"
                + " leads of its wires 0 to 3; 9: the heating; 10: the stray voltage; 11: 1 if it is shorted, otherwise 0; 12: its broken"
                + " wires as bits; 13: ten times its card plus its slot; 14 to 16: its limits low, high, hysteresis; 17: 1 if its alarm is"
                + " on, otherwise 0; 18: readings so far", SetupEdgesTest::whatsOfSensor);
        sentence("Returns the number; INVALID_ARGUMENT if an argument is out of range", () -> {
            range(Edges::busy, (x, what) -> x.sensorOf(0, what), 0, 0, 18, 2);
            refused(Edges::busy, x -> x.sensorOf(2, 13), INVALID);
        });
        sentence("NOT_FOUND for 5 to 8 if it has no such wire, for 13 if it is not plugged", () -> {
            for (int wires = 2; wires <= 4; wires++) {
                OhmBridge x = Due.exactSensor(wires);
                for (int wire = 0; wire < 4; wire++) {
                    due(x.sensorOf(0, 5 + wire), wire < wires ? 0 : NOT_FOUND);
                }
            }
            refused(Edges::busy, x -> x.sensorOf(1, 7), NOT_FOUND);
            refused(Edges::busy, x -> x.sensorOf(1, 13), NOT_FOUND);
            due(busy().sensorOf(1, 6), 0);
            due(busy().sensorOf(0, 13), 30);
        });
    }

    private static void whatsOfSensor() {
        int[] one = {0, 3, 100000, 100000, 0, 9, 0, 0, NOT_FOUND, 0, 40, 0, 0, 30, 6, 7, 1, 1, 2};
        int[] two = {0, 2, 5000, 5000, 0, 0, 0, NOT_FOUND, NOT_FOUND, 0, 0, 0, 2, NOT_FOUND, -200000, 850000, 0, 0, 0};
        for (int what = 0; what <= 18; what++) {
            due(busy().sensorOf(0, what), one[what]);
            due(busy().sensorOf(1, what), two[what]);
        }
        due(full().sensorOf(5, 0), 2);
        due(full().sensorOf(5, 13), 32);
        // so far: more than are kept
        due(full().sensorOf(0, 18), 11);
        OhmBridge x = Due.exactSensor(4);
        x.lead(0, 0, 1);
        x.lead(0, 1, 2);
        x.lead(0, 2, 3);
        x.lead(0, 3, 4);
        x.strain(0, 0, 5);
        x.strain(0, 2, 1);
        x.cut(0, 3, 1);
        x.drift(0, 100000);
        int[] leads = {1, 2, 3, 4, 5, 0, 1, 8};
        for (int what = 5; what <= 12; what++) {
            due(x.sensorOf(0, what), leads[what - 5]);
        }
        due(x.sensorOf(0, 2), 110000);
        due(x.sensorOf(0, 3), 100000);
    }
}
