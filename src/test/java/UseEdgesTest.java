/** The boundary cases that promises 19 to 33 name, sentence by sentence: measuring, logs and texts. */
public final class UseEdgesTest extends Edges {
    private UseEdgesTest() {
    }

    public static void main(String[] args) {
        section("Promise 19", UseEdgesTest::set);
        section("Promise 20", UseEdgesTest::counts);
        section("Promise 21", UseEdgesTest::ohms);
        section("Promise 22", UseEdgesTest::diagnosis);
        section("Promise 23", UseEdgesTest::read);
        section("Promise 24", UseEdgesTest::scan);
        section("Promise 25", UseEdgesTest::readingAt);
        section("Promise 26", UseEdgesTest::median);
        section("Promise 27", UseEdgesTest::meanBits);
        section("Promise 28", UseEdgesTest::count);
        section("Promise 29", UseEdgesTest::undo);
        section("Promise 30", UseEdgesTest::type);
        section("Promise 31", UseEdgesTest::clearText);
        section("Promise 32", UseEdgesTest::fault);
        section("Promise 33", UseEdgesTest::play);
        end();
    }

    private static void set() {
        sentence("`what`: 0 to 6", () -> {
            range(OhmBridge::new, (x, what) -> x.set(what, what == 0 ? 10000 : 9), 0, 100000, 6, 3);
            invalid(OhmBridge::new, (x, what) -> x.set(what, 10000), -1, 7, 8);
            invalid(OhmBridge::new, (x, what) -> x.set(what, 100), -1, 7, 8);
        });
        sentence("`value`: a value in its range", () -> {
            int[][] rows = {{10000, 1000000, 100000}, {100, 5000, 1000}, {100, 5000, 1414}, {8, 24, 20}, {0, 50000, 500},
                {0, 100000, 5000}, {1, 9, 3}};
            for (int row = 0; row < rows.length; row++) {
                int what = row;
                int first = rows[what][2];
                range(OhmBridge::new, (x, value) -> x.set(what, value), rows[what][0], first, rows[what][1], first);
                OhmBridge x = new OhmBridge();
                x.set(what, rows[what][0]);
                due(x.count(20 + what), rows[what][0]);
                x.set(what, rows[what][1]);
                due(x.count(20 + what), rows[what][1]);
            }
        });
        sentence("Returns what it was; INVALID_ARGUMENT if an argument is out of range.", () -> {
            OhmBridge x = new OhmBridge();
            due(x.set(4, 50000), 500);
            due(x.set(4, 0), 50000);
            due(x.set(4, 0), 0);
            refused(Edges::full, y -> y.set(4, 50001), INVALID);
            refused(Edges::busy, y -> y.set(4, -1), INVALID);
            refused(Edges::busy, y -> y.set(7, 0), INVALID);
        });
    }

    private static void counts() {
        sentence("Returns counts of a sensor, whatever its diagnosis.", () -> {
            OhmBridge x = Due.exactSensor(4);
            due(x.counts(0, 1000, 0, 0), 800000);
            x.unplug(0);
            due(x.counts(0, 1000, 0, 0), 800000);
            x.cut(0, 0, 1);
            due(x.counts(0, 1000, 0, 0), 800000);
            x.strain(0, 2, 1);
            due(x.counts(0, 1000, 0, 0), 0);
            x.strain(0, 2, 0);
            x.set(0, 10000);
            due(x.counts(0, 1000, 0, 0), 4194304);
        });
        sentence("`sensor`: number of the sensor", () -> sensorNumbers((x, sensor) -> x.counts(sensor, 1000, 0, 0)));
        sentence("`current`: 100 to 5000", () ->
                range(() -> Due.exactSensor(3), (x, current) -> x.counts(0, current, 0, 0), 100, 800000, 5000, 800000));
        sentence("`loop`: 0: its loop; 1: the second loop", () ->
                range(() -> leads(3), (x, loop) -> x.counts(0, 1000, loop, 0), 0, 800240, 1, 400));
        sentence("`way`: 0: one way; 1: the other way; 2: both ways", () -> {
            range(() -> strayed(8000), (x, way) -> x.counts(0, 1000, 0, way), 0, 800064, 2, 800000);
            due(strayed(8000).counts(0, 1000, 0, 1), -799936);
            range(() -> strayed(8000), (x, way) -> x.counts(0, 1000, 1, way), 0, 64, 2, 0);
            due(strayed(8000).counts(0, 1000, 1, 1), 64);
        });
        sentence("Returns the counts; INVALID_ARGUMENT if an argument is out of range", () -> {
            due(leads(3).counts(0, 1000, 0, 2), 800240);
            refused(() -> leads(4), x -> x.counts(0, 99, 1, 0), INVALID);
            refused(() -> leads(4), x -> x.counts(0, 1000, 1, 3), INVALID);
            refused(() -> leads(4), x -> x.counts(1, 1000, 1, 0), INVALID);
            refused(() -> leads(4), x -> x.counts(0, 1000, 2, 0), INVALID);
        });
        sentence("NOT_FOUND for the second loop if it has not 3 wires", () -> {
            for (int way = 0; way <= 2; way++) {
                int asked = way;
                refused(() -> leads(2), x -> x.counts(0, 1000, 1, asked), NOT_FOUND);
                refused(() -> leads(4), x -> x.counts(0, 1000, 1, asked), NOT_FOUND);
                due(leads(3).counts(0, 1000, 1, asked), asked == 1 ? -400 : 400);
            }
            due(leads(2).counts(0, 1000, 0, 0), 800240);
            due(leads(4).counts(0, 1000, 0, 0), 800000);
        });
    }

    /** Leads of 10, 20, 30 and 40 as far as there are wires; a thousandth of an ohm is 8 counts. */
    private static OhmBridge leads(int wires) {
        OhmBridge x = Due.exactSensor(wires);
        for (int wire = 0; wire < wires; wire++) {
            x.lead(0, wire, 10 * wire + 10);
        }
        return x;
    }

    private static OhmBridge strayed(int stray) {
        OhmBridge x = Due.exactSensor(3);
        x.strain(0, 1, stray);
        return x;
    }

    private static OhmBridge heated() {
        OhmBridge x = leads(3);
        x.set(2, 2000);
        x.strain(0, 0, 1000);
        x.strain(0, 1, 8000);
        return x;
    }

    private static void ohms() {
        sentence("Returns a resistance of a sensor, whatever its diagnosis.", () -> {
            OhmBridge x = heated();
            x.unplug(0);
            x.cut(0, 0, 1);
            due(x.ohms(0, 0), 100100);
            due(x.ohms(0, 5), 99980);
            x.strain(0, 2, 1);
            due(x.ohms(0, 0), 0);
            due(x.ohms(0, 5), -20);
        });
        sentence("`sensor`: number of the sensor", () -> sensorNumbers((x, sensor) -> x.ohms(sensor, 0)));
        sentence("`what`: 0: heated by the current; 1: by the counts one way of its loop by the current; 2: by those both ways; 3:"
                + " compensated by the current; 4: compensated by the second current; 5: without power", () -> {
            int[] due = {100100, 100138, 100130, 100080, 100380, 99980};
            for (int what = 0; what <= 5; what++) {
                due(heated().ohms(0, what), due[what]);
            }
            range(() -> heated(), (x, what) -> x.ohms(0, what), 0, 100100, 5, 99980);
        });
        sentence("Returns the resistance; INVALID_ARGUMENT if an argument is out of range.", () -> {
            refused(Edges::busy, x -> x.ohms(0, 6), INVALID);
            refused(Edges::busy, x -> x.ohms(2, 0), INVALID);
        });
    }

    private static void diagnosis() {
        sentence("`sensor`: number of the sensor", () -> sensorNumbers((x, sensor) -> x.diagnosis(sensor)));
        sentence("Returns 0 to 7; INVALID_ARGUMENT.", () -> {
            OhmBridge x = Due.exactSensor(3);
            due(x.diagnosis(0), 0);
            x.bath(0, 100000);
            x.lead(0, 0, 1);
            due(x.diagnosis(0), 7);
            x.unplug(0);
            due(x.diagnosis(0), 1);
            refused(OhmBridge::new, y -> y.diagnosis(0), INVALID);
            refused(Edges::full, y -> y.diagnosis(6), INVALID);
        });
    }

    private static void read() {
        sentence("`sensor`: number of the sensor", () -> sensorNumbers((x, sensor) -> x.read(sensor)));
        sentence("Returns the reading; INVALID_ARGUMENT; NOT_POSSIBLE if its diagnosis is not 0.", () -> {
            OhmBridge x = Due.exactSensor(4);
            due(x.read(0), 0);
            x.bath(0, 100000);
            due(x.read(0), 100000);
            x.bath(0, -50000);
            due(x.read(0), -50000);
            due(x.count(4), 3);
            refused(Edges::busy, y -> y.read(1), NOT_POSSIBLE);
            refused(Edges::busy, y -> y.read(2), INVALID);
            // with 9 readings kept: none of them is lost
            refused(() -> {
                OhmBridge y = full();
                y.cut(0, 0, 1);
                return y;
            }, y -> y.read(0), NOT_POSSIBLE);
            // a reading that is no change of any number is one more reading
            OhmBridge again = full();
            again.read(0);
            due(again.sensorOf(0, 18), 12);
            due(again.undo(), 3);
            due(again.sensorOf(0, 18), 11);
        });
    }

    private static OhmBridge sensorsIn(int... places) {
        OhmBridge x = Due.evenTable();
        x.set(0, 131072);
        for (int place : places) {
            int card = place / 10;
            x.sensor(0, card == 3 ? 4 : card + 2, 100000);
            x.plug(x.count(1) - 1, card, place % 10);
        }
        return x;
    }

    private static void scan() {
        sentence("the scanner goes to the next plugged sensor and reads it, if its diagnosis is 0; otherwise it only goes there", () -> {
            OhmBridge x = sensorsIn(0, 11);
            x.cut(1, 2, 1);
            due(x.scan(), 0);
            due(x.count(5), 0);
            due(x.count(4), 1);
            due(x.scan(), -2);
            due(x.count(5), 11);
            due(x.count(4), 1);
            due(x.sensorOf(1, 18), 0);
            // from there it goes on
            due(x.scan(), 0);
            due(x.undo(), 3);
            due(x.count(5), 11);
            due(x.undo(), 2);
            due(x.count(5), 0);
            due(x.undo(), 1);
            due(x.count(5), NOT_FOUND);
        });
        sentence("Returns the number of the sensor if it was read, otherwise -1 minus this number", () -> {
            OhmBridge x = sensorsIn(0, 1, 2, 30, 31, 32);
            for (int sensor = 0; sensor < 6; sensor++) {
                due(x.scan(), sensor);
            }
            for (int sensor = 0; sensor < 6; sensor++) {
                x.cut(sensor, 1, 1);
            }
            for (int sensor = 0; sensor < 6; sensor++) {
                due(x.scan(), -1 - sensor);
            }
            due(x.count(4), 6);
            due(x.count(6), 4);
            OhmBridge hot = Due.exactSensor(4);
            hot.limits(0, 1, 1, 0);
            due(hot.scan(), 0);
            due(hot.sensorOf(0, 17), 1);
        });
        sentence("NOT_POSSIBLE if no sensor is plugged", () -> {
            refused(OhmBridge::new, x -> x.scan(), NOT_POSSIBLE);
            refused(Due::evenTable, x -> x.scan(), NOT_POSSIBLE);
            refused(() -> unplugged(busy()), x -> x.scan(), NOT_POSSIBLE);
            refused(() -> unplugged(Due.exactSensor(4)), x -> x.scan(), NOT_POSSIBLE);
            due(Due.exactSensor(4).scan(), 0);
            // the least plugged one, in whatever slot
            for (int card = 0; card <= 3; card++) {
                for (int slot = 0; slot <= 2; slot++) {
                    OhmBridge x = sensorsIn(10 * card + slot);
                    due(x.scan(), 0);
                    due(x.count(5), 10 * card + slot);
                    due(x.scan(), 0);
                    due(x.count(4), 2);
                }
            }
        });
    }

    private static OhmBridge unplugged(OhmBridge bridge) {
        bridge.unplug(0);
        return bridge;
    }

    /** A sensor with four wires that was read at these temperatures. */
    private static OhmBridge readAt(int... temperatures) {
        OhmBridge x = Due.exactSensor(4);
        for (int temperature : temperatures) {
            x.bath(0, temperature);
            x.read(0);
        }
        return x;
    }

    private static void readingAt() {
        sentence("`sensor`: number of the sensor", () -> sensorNumbers((x, sensor) -> x.readingAt(sensor, 0)));
        sentence("`index`: 0 for the latest one, 1 for the one before, and so on", () -> {
            OhmBridge x = readAt(1, 2, 3, 4, 5, 6, 7, 8, 9);
            for (int index = 0; index <= 8; index++) {
                due(x.readingAt(0, index), 9 - index);
            }
        });
        sentence("Returns the reading; INVALID_ARGUMENT if there is no such sensor or index is negative", () -> {
            invalid(Edges::busy, (x, index) -> x.readingAt(0, index), -1, Integer.MIN_VALUE);
            invalid(Edges::busy, (x, index) -> x.readingAt(1, index), -1, Integer.MIN_VALUE);
            refused(Edges::busy, x -> x.readingAt(2, 0), INVALID);
            refused(Edges::full, x -> x.readingAt(6, 0), INVALID);
        });
        sentence("NOT_FOUND if not so many are kept", () -> {
            refused(() -> readAt(), x -> x.readingAt(0, 0), NOT_FOUND);
            due(readAt(7).readingAt(0, 0), 7);
            refused(() -> readAt(7), x -> x.readingAt(0, 1), NOT_FOUND);
            refused(() -> readAt(1, 2, 3, 4, 5, 6, 7, 8), x -> x.readingAt(0, 8), NOT_FOUND);
            due(readAt(1, 2, 3, 4, 5, 6, 7, 8, 9).readingAt(0, 8), 1);
            refused(() -> readAt(1, 2, 3, 4, 5, 6, 7, 8, 9), x -> x.readingAt(0, 9), NOT_FOUND);
            due(full().readingAt(0, 8), 2);
            // 11 were read, 9 are kept
            refused(Edges::full, x -> x.readingAt(0, 9), NOT_FOUND);
            refused(Edges::full, x -> x.readingAt(0, 10), NOT_FOUND);
            refused(Edges::full, x -> x.readingAt(0, Integer.MAX_VALUE), NOT_FOUND);
            refused(Edges::full, x -> x.readingAt(1, 0), NOT_FOUND);
        });
    }

    private static int medianOf(int taken, int... temperatures) {
        OhmBridge x = readAt(temperatures);
        x.set(6, taken);
        return x.median(0);
    }

    private static void median() {
        sentence("`sensor`: number of the sensor", () -> sensorNumbers((x, sensor) -> x.median(sensor)));
        sentence("Returns the median; INVALID_ARGUMENT; NOT_FOUND without readings.", () -> {
            refused(() -> readAt(), x -> x.median(0), NOT_FOUND);
            refused(Edges::full, x -> x.median(5), NOT_FOUND);
            refused(Edges::full, x -> x.median(6), INVALID);
            due(readAt(-5).median(0), -5);
            OhmBridge x = readAt(-5);
            x.undo();
            due(x.median(0), NOT_FOUND);
            int[] due = {9, 1, 8, 2, 7, 3, 6, 4, 5};
            int[] medians = {5, 4, 5, 4, 5, 4, 5, 4, 5};
            for (int taken = 1; taken <= 9; taken++) {
                due(medianOf(taken, due), medians[taken - 1]);
            }
            // what is sorted for it stays as it was read
            OhmBridge y = readAt(9, 1, 8);
            y.median(0);
            due(y.readingAt(0, 0), 8);
            due(y.readingAt(0, 1), 1);
            due(y.median(0), 8);
        });
    }

    private static void mean(int... temperatures) {
        long sum = 0;
        for (int temperature : temperatures) {
            sum += temperature;
        }
        double mean = (double) sum / temperatures.length / 1000.0;
        due(readAt(temperatures).meanBits(0), Float.floatToRawIntBits((float) mean));
    }

    /** The same by way of a sensor that reads any temperature from -200000 to 850000 as it is. */
    private static void meanFar(int... temperatures) {
        OhmBridge x = new OhmBridge();
        x.table();
        x.node(0, -200000, 100000);
        x.node(0, 850000, 1150000);
        x.set(0, 524288);
        x.sensor(0, 4, 1000000);
        x.plug(0, 2, 0);
        long sum = 0;
        for (int temperature : temperatures) {
            x.bath(0, temperature);
            sum += x.read(0);
        }
        due(x.sensorOf(0, 18), temperatures.length);
        double mean = (double) sum / temperatures.length / 1000.0;
        due(x.meanBits(0), Float.floatToRawIntBits((float) mean));
    }

    private static void meanBits() {
        sentence("Returns the bits of the mean of the readings of a sensor that are kept", () -> {
            due(readAt(1000).meanBits(0), 0x3F800000);
            due(readAt(-1000).meanBits(0), 0xBF800000);
            // the tenth one back is not kept any more
            due(readAt(90000, 1000, 1000, 1000, 1000, 1000, 1000, 1000, 1000, 1000).meanBits(0), 0x3F800000);
            due(readAt(10000, 1000, 1000, 1000, 1000, 1000, 1000, 1000, 1000).meanBits(0), 0x40000000);
            // all nine, however many a median takes
            OhmBridge x = readAt(3000, 1000, 2000);
            x.set(6, 1);
            due(x.meanBits(0), 0x40000000);
        });
        sentence("they are added up as whole numbers, the sum is divided by their number in doubles, then by 1000 in doubles, and this"
                + " is made a float", () -> {
            due(readAt(0).meanBits(0), 0);
            due(readAt(5, -5).meanBits(0), 0);
            mean(1);
            mean(-1);
            mean(0, 0, 0, 0, 0, 0, 0, 0, 1);
            mean(0, 0, 0, 0, 0, 0, 0, 0, -1);
            mean(1, 1, 2);
            mean(-50000, -49999, -49999);
            mean(999, 1000);
            mean(1999, 2000, 2000);
            mean(2001);
            mean(100000, 99999, 100000);
            mean(65535, 65536, 65536, 65537, 65536, 65536, 65536);
            meanFar(850000, 850000, 850000, 850000, 850000, 850000, 850000, 850000, 850000);
            meanFar(-200000, -200000, -200000, -200000, -200000, -200000, -200000, -200000, -200000);
            meanFar(850000, 849999, 849998);
            meanFar(-200000, 850000);
        });
        sentence("`sensor`: number of the sensor", () -> sensorNumbers((x, sensor) -> x.meanBits(sensor)));
        sentence("Returns the bits of the float; INVALID_ARGUMENT; NOT_FOUND without readings.", () -> {
            refused(() -> readAt(), x -> x.meanBits(0), NOT_FOUND);
            refused(Edges::full, x -> x.meanBits(5), NOT_FOUND);
            refused(Edges::full, x -> x.meanBits(6), INVALID);
            due(readAt(500).meanBits(0), 0x3F000000);
            OhmBridge x = readAt(500);
            x.undo();
            due(x.meanBits(0), NOT_FOUND);
        });
    }

    private static void count() {
        sentence("`what`: 0: tables; 1: sensors; 2: sensors that are plugged; 3: alarms that are on; 4: readings of all sensors so far; 5:"
                + " the place of the scanner, ten times the card plus the slot; 6: states in the history; 7: the length of the text; 10 to"
                + " 12: nodes of the tables 0 to 2; 20 to 26: the settings 0 to 6", UseEdgesTest::counted);
        sentence("Returns the number; INVALID_ARGUMENT if what is out of range", () -> {
            int[] gaps = {-1, 8, 9, 13, 14, 15, 16, 17, 18, 19, 27, 28, 30, 100, Integer.MIN_VALUE, Integer.MAX_VALUE};
            invalid(Edges::full, (x, what) -> x.count(what), gaps);
            invalid(OhmBridge::new, (x, what) -> x.count(what), gaps);
        });
        sentence("NOT_FOUND for 5 if it has not scanned yet, for 10 to 12 if there is no such table", () -> {
            refused(OhmBridge::new, x -> x.count(5), NOT_FOUND);
            refused(Edges::full, x -> x.count(5), NOT_FOUND);
            OhmBridge x = Due.exactSensor(4);
            due(x.scan(), 0);
            due(x.count(5), 30);
            x.undo();
            due(x.count(5), NOT_FOUND);
            // also if it could not be read
            x.cut(0, 0, 1);
            x.scan();
            due(x.count(5), 30);
            for (int tables = 0; tables <= 3; tables++) {
                OhmBridge y = new OhmBridge();
                for (int table = 0; table < tables; table++) {
                    y.table();
                }
                for (int table = 0; table <= 2; table++) {
                    due(y.count(10 + table), table < tables ? 0 : NOT_FOUND);
                }
            }
            refused(OhmBridge::new, y -> y.count(10), NOT_FOUND);
            refused(Edges::busy, y -> y.count(12), NOT_FOUND);
        });
    }

    private static void counted() {
        int[] whats = {0, 1, 2, 3, 4, 5, 6, 7, 10, 11, 12, 20, 21, 22, 23, 24, 25, 26};
        int[] none = {0, 0, 0, 0, 0, NOT_FOUND, 0, 0, NOT_FOUND, NOT_FOUND, NOT_FOUND, 100000, 1000, 1414, 20, 500, 5000, 3};
        int[] some = {2, 2, 1, 1, 2, 30, 4, 7, 3, 1, NOT_FOUND, 131072, 1000, 1414, 20, 500, 5000, 4};
        int[] most = {3, 6, 6, 0, 11, NOT_FOUND, 4, 60, 12, 12, 12, 131072, 1000, 1414, 20, 500, 5000, 3};
        for (int at = 0; at < whats.length; at++) {
            due(new OhmBridge().count(whats[at]), none[at]);
            due(busy().count(whats[at]), some[at]);
            due(full().count(whats[at]), most[at]);
        }
        OhmBridge x = full();
        for (int sensor = 0; sensor < 6; sensor++) {
            x.limits(sensor, 850000, 850000, 0);
            x.read(sensor);
        }
        due(x.count(3), 6);
        due(x.count(4), 17);
        for (int sensor = 0; sensor < 6; sensor++) {
            x.unplug(sensor);
        }
        due(x.count(2), 0);
        due(x.count(3), 6);
    }

    private static void undo() {
        sentence("Restores the latest state of the history, which is removed from it.", () -> {
            OhmBridge x = new OhmBridge();
            x.set(4, 1);
            x.set(4, 2);
            due(x.undo(), 1);
            due(x.count(24), 1);
            due(x.undo(), 0);
            due(x.count(24), 500);
            x.set(4, 3);
            x.undo();
            due(x.count(24), 500);
            due(x.count(6), 0);
        });
        sentence("Returns the number of states that are left in the history; NOT_POSSIBLE if it is empty.", () -> {
            refused(OhmBridge::new, x -> x.undo(), NOT_POSSIBLE);
            for (int changes = 1; changes <= 7; changes++) {
                OhmBridge x = new OhmBridge();
                for (int change = 1; change <= changes; change++) {
                    x.set(4, change);
                }
                int kept = Math.min(changes, 4);
                due(x.count(6), kept);
                for (int left = kept - 1; left >= 0; left--) {
                    due(x.undo(), left);
                    int before = changes - kept + left;
                    due(x.count(24), before == 0 ? 500 : before);
                }
                due(x.undo(), NOT_POSSIBLE);
                due(x.count(6), 0);
                due(x.count(24), changes > 4 ? changes - 4 : 500);
                due(x.set(4, 9), changes > 4 ? changes - 4 : 500);
                due(x.count(6), 1);
            }
            refused(() -> {
                OhmBridge x = busy();
                for (int undo = 0; undo < 4; undo++) {
                    x.undo();
                }
                return x;
            }, x -> x.undo(), NOT_POSSIBLE);
        });
    }

    private static OhmBridge typed(int many) {
        OhmBridge x = new OhmBridge();
        for (int at = 0; at < many; at++) {
            x.type(at % 2 == 0 ? 's' : ';');
        }
        return x;
    }

    private static void type() {
        sentence("`character`: 32 to 126", () -> {
            range(OhmBridge::new, (x, character) -> x.type(character), 32, 1, 126, 1);
            invalid(OhmBridge::new, (x, character) -> x.type(character), -1, 0, 10, 9, 128, 160, 256 + 's', 65536 + 's');
            for (int character = 32; character <= 126; character++) {
                due(new OhmBridge().type(character), 1);
            }
        });
        sentence("Returns the length of the text; INVALID_ARGUMENT if character is out of range", () -> {
            for (int many = 0; many < 60; many++) {
                due(typed(many).type(';'), many + 1);
            }
            refused(() -> typed(7), x -> x.type(127), INVALID);
            refused(() -> typed(60), x -> x.type(127), INVALID);
            refused(() -> typed(60), x -> x.type(31), INVALID);
        });
        sentence("LIMIT_REACHED if it has 60 characters", () -> {
            due(typed(59).type(';'), 60);
            refused(() -> typed(60), x -> x.type(';'), LIMIT);
            refused(() -> typed(60), x -> x.type(32), LIMIT);
            OhmBridge x = typed(60);
            due(x.clearText(), 60);
            due(x.type('s'), 1);
        });
    }

    private static void clearText() {
        sentence("Returns the length it had.", () -> {
            due(typed(0).clearText(), 0);
            due(typed(1).clearText(), 1);
            due(typed(60).clearText(), 60);
            OhmBridge x = typed(60);
            x.clearText();
            due(x.count(7), 0);
            due(x.clearText(), 0);
            due(x.fault(0), NOT_FOUND);
            // nothing of the old text comes back behind a new one
            x.type('r');
            due(x.fault(0), 0);
            x.clearText();
            x.type('s');
            due(x.fault(1), 1);
            OhmBridge y = busy();
            due(y.clearText(), 7);
            due(y.count(6), 4);
        });
        sentence("Empties the text.", () -> {
            OhmBridge x = Due.exactSensor(4);
            Due.type(x, "s;x");
            due(x.fault(0), 2);
            x.clearText();
            due(x.play(), 0);
            due(x.sensorOf(0, 18), 0);
        });
    }

    private static void fault() {
        sentence("`what`: 0: its position; 1: its reason", () -> {
            range(Edges::busy, (x, what) -> x.fault(what), 0, 5, 1, 1);
            OhmBridge x = Due.exactSensor(4);
            Due.type(x, "r0;r1;");
            due(x.fault(0), 3);
            due(x.fault(1), 2);
        });
        sentence("INVALID_ARGUMENT if what is out of range", () -> {
            invalid(OhmBridge::new, (x, what) -> x.fault(what), -1, 2, 3);
            invalid(Edges::full, (x, what) -> x.fault(what), -1, 2, 3);
        });
        sentence("NOT_FOUND if the text has no fault (also if it is empty)", () -> {
            refused(OhmBridge::new, x -> x.fault(0), NOT_FOUND);
            refused(OhmBridge::new, x -> x.fault(1), NOT_FOUND);
            refused(Edges::full, x -> x.fault(0), NOT_FOUND);
            refused(Edges::full, x -> x.fault(1), NOT_FOUND);
            refused(() -> plugged(typed(60)), x -> x.fault(1), NOT_FOUND);
            refused(() -> plugged(typed(0)), x -> x.fault(1), NOT_FOUND);
            // telling of a fault is no change either
            OhmBridge x = busy();
            x.fault(0);
            x.fault(1);
            same(Told.of(x), Told.of(busy()));
        });
    }

    private static OhmBridge plugged(OhmBridge bridge) {
        bridge.table();
        bridge.node(0, 0, 1000000);
        bridge.node(0, 1, 2000000);
        bridge.sensor(0, 2, 100000);
        bridge.plug(0, 3, 2);
        return bridge;
    }

    private static OhmBridge withText(String text) {
        OhmBridge x = Due.exactSensor(3);
        Due.type(x, text);
        return x;
    }

    private static void play() {
        sentence("Does all orders of the text, which stays.", () -> {
            OhmBridge x = withText("t0,-7;r0;b0,0;s;m0,0;s;t0,100000;");
            due(x.play(), 7);
            due(x.count(7), 33);
            due(x.sensorOf(0, 4), 100000);
            due(x.sensorOf(0, 18), 2);
            due(x.sensorOf(0, 12), 0);
            due(x.count(5), 30);
            due(x.play(), 7);
            due(x.sensorOf(0, 18), 4);
        });
        sentence("They are one change, also if there are none.", () -> {
            OhmBridge none = new OhmBridge();
            due(none.play(), 0);
            due(none.count(6), 1);
            due(none.undo(), 0);
            OhmBridge x = withText("t0,-7;r0;b0,0;s;t0,9;");
            x.set(4, 1);
            x.undo();
            due(x.count(6), 3);
            String before = Told.of(x);
            due(x.play(), 5);
            due(x.count(6), 4);
            due(x.undo(), 3);
            same(Told.of(x), before);
            // none, with a full history: the oldest state is dropped for it
            OhmBridge y = withText("");
            due(y.count(6), 4);
            due(y.play(), 0);
            due(y.count(6), 4);
            y.undo();
            same(Told.of(y), Told.of(withText("")).replace("count 6: 4", "count 6: 3"));
            y.undo();
            due(y.sensorOf(0, 13), NOT_FOUND);
            y.undo();
            due(y.count(1), 0);
            y.undo();
            due(y.count(20), 100000);
            due(y.undo(), NOT_POSSIBLE);
        });
        sentence("Returns how many there are in it; NOT_POSSIBLE if it has a fault.", () -> {
            due(withText("").play(), 0);
            due(withText("s;").play(), 1);
            due(plugged(typed(60)).play(), 30);
            refused(() -> withText("s"), x -> x.play(), NOT_POSSIBLE);
            refused(() -> withText("r1;"), x -> x.play(), NOT_POSSIBLE);
            refused(() -> withText("t0,5;r0;b0,1;s;r0;"), x -> x.play(), NOT_POSSIBLE);
            refused(() -> withText("t0,5;b0,1;m0,1;t0,100001;"), x -> x.play(), NOT_POSSIBLE);
            refused(() -> withText("s;s;s;s;s;s;s;s;s;s;s;s;s;s;s;s;s;s;s;s;s;s;s;s;s;s;s;s;s;s"), x -> x.play(), NOT_POSSIBLE);
            refused(() -> typed(60), x -> x.play(), NOT_POSSIBLE);
            // in a full bridge: ten orders of six characters
            due(full().play(), 10);
        });
    }
}
