/** The boundary cases that the document's terms name, sentence by sentence. */
public final class TermsEdgesTest extends Edges {
    private TermsEdgesTest() {
    }

    public static void main(String[] args) {
        section("What it is", TermsEdgesTest::use);
        section("Terms", TermsEdgesTest::numbers);
        section("Tables", TermsEdgesTest::tables);
        section("Sensors", TermsEdgesTest::sensors);
        section("Cards", TermsEdgesTest::cards);
        section("Settings", TermsEdgesTest::settings);
        section("Measuring", TermsEdgesTest::measuring);
        section("Diagnosis", TermsEdgesTest::diagnosis);
        section("Reading", TermsEdgesTest::reading);
        section("Texts", TermsEdgesTest::texts);
        section("Changes and errors", TermsEdgesTest::changes);
        end();
    }

    /** A table of the temperatures and ratios that are told in turns. */
    private static OhmBridge withTable(int... temperaturesAndRatios) {
        OhmBridge x = new OhmBridge();
        x.table();
        for (int at = 0; at + 1 < temperaturesAndRatios.length; at += 2) {
            x.node(0, temperaturesAndRatios[at], temperaturesAndRatios[at + 1]);
        }
        return x;
    }

    private static OhmBridge widest() {
        return withTable(-200000, 1, 850000, 10000000);
    }

    private static int type(OhmBridge x, String text, int what) {
        Due.type(x, text);
        return x.fault(what);
    }

    private static void use() {
        sentence("An object is used for at most 512 calls after it has been made", () -> {
            OhmBridge x = Due.exactSensor(4);
            for (int call = 7; call <= 511; call++) {
                due(x.read(0), 0);
            }
            due(x.sensorOf(0, 18), 505);
        });
        sentence("sensors with two, three or four wires that are plugged into cards which take some kinds alone", () -> {
            due(Due.exactSensor(2).unplug(0), 30);
            due(Due.exactSensor(3).unplug(0), 30);
            due(Due.exactSensor(4).unplug(0), 30);
        });
        sentence("heat by the current that is extrapolated to none", () -> {
            OhmBridge x = Due.exactSensor(4);
            x.set(2, 2000);
            due(x.ohms(0, 5), 100000);
            x.strain(0, 0, 5000);
            due(x.ohms(0, 3), 100500);
            due(x.ohms(0, 5), 100000);
        });
    }

    private static void numbers() {
        sentence("A number divided by another one is rounded toward 0", () -> {
            OhmBridge x = Due.exactSensor(4);
            x.set(0, 1000000);
            x.strain(0, 2, 1);
            x.strain(0, 1, -953);
            // -953 * 1048576 / 1000000000 is -0.9993, and -954 is -1.0003
            due(x.counts(0, 1000, 0, 0), 0);
            x.strain(0, 1, 953);
            due(x.counts(0, 1000, 0, 0), 0);
            x.strain(0, 1, -954);
            due(x.counts(0, 1000, 0, 0), -1);
            x.strain(0, 1, 954);
            due(x.counts(0, 1000, 0, 0), 1);
            // 1 count is 0.95 thousandths of an ohm, 2 are 1.9
            due(x.ohms(0, 1), 0);
            x.strain(0, 1, -1908);
            due(x.counts(0, 1000, 0, 0), -2);
            due(x.ohms(0, 1), -1);
            due(withTable(0, 1, 3, 3).ratio(0, 2), 2);
            due(withTable(0, 1, 3, 3).ratio(0, 1), 1);
        });
        sentence("all is worked out from left to right", () -> {
            OhmBridge x = Due.exactSensor(4);
            x.set(1, 100);
            x.strain(0, 0, 4993);
            x.bath(0, -39910);
            // 10000 * 60090 / 1000000 is 600 and a rest, 600 * 4993 / 1000000 is 2 and a rest; with the first rest it is 3
            due(x.ohms(0, 0), 60092);
        });
        sentence("and never leaves 64 bits", () -> {
            OhmBridge x = widest();
            x.sensor(0, 2, 2000000);
            x.bath(0, 850000);
            x.lead(0, 0, 50000);
            x.lead(0, 1, 50000);
            x.strain(0, 0, 5000);
            x.strain(0, 1, 100000);
            x.set(1, 5000);
            x.set(2, 4999);
            x.set(3, 24);
            due(x.ohms(0, 0), 20000000);
            due(x.counts(0, 5000, 0, 0), 67108864);
            due(x.counts(0, 5000, 0, 1), -67108864);
            due(x.counts(0, 5000, 0, 2), 67108864);
            x.set(0, 1000000);
            due(x.ohms(0, 2), 4000000);
            due(x.ohms(0, 5), 4000000);
            x.bath(0, 849999);
            due(x.ohms(0, 0), 20000000);
            // the least ratio: 1 / 1000000 of the base, no heat to speak of
            x.bath(0, -200000);
            due(x.ohms(0, 0), 2);
        });
    }

    private static void tables() {
        sentence("There are at most 3 tables, numbered from 0.", () -> {
            OhmBridge x = new OhmBridge();
            due(x.table(), 0);
            due(x.table(), 1);
            due(x.table(), 2);
            due(x.count(0), 3);
            refused(Edges::full, y -> y.table(), LIMIT);
        });
        sentence("A table has at most 12 nodes", () -> {
            OhmBridge x = withTable();
            for (int node = 0; node < 12; node++) {
                due(x.node(0, node, 1 + node), node + 1);
            }
            due(x.count(10), 12);
            due(x.node(0, 12, 13), LIMIT);
            due(x.nodeAt(0, 11, 0), 11);
        });
        sentence("each with a temperature (-200000 to 850000) and a ratio (1 to 10000000, in millionths)", () -> {
            range(() -> withTable(), (x, t) -> x.node(0, t, 5), -200000, 1, 850000, 1);
            range(() -> withTable(), (x, r) -> x.node(0, 5, r), 1, 1, 10000000, 1);
            due(widest().nodeAt(0, 0, 0), -200000);
            due(widest().nodeAt(0, 0, 1), 1);
            due(widest().nodeAt(0, 1, 0), 850000);
            due(widest().nodeAt(0, 1, 1), 10000000);
        });
        sentence("both rise from each node to the next", () -> {
            due(withTable(10, 20).node(0, 11, 21), 2);
            refused(() -> withTable(10, 20), x -> x.node(0, 10, 21), NOT_POSSIBLE);
            refused(() -> withTable(10, 20), x -> x.node(0, 11, 20), NOT_POSSIBLE);
            refused(() -> withTable(10, 20), x -> x.node(0, 9, 21), NOT_POSSIBLE);
            refused(() -> withTable(10, 20), x -> x.node(0, 11, 19), NOT_POSSIBLE);
            due(withTable(0, 20, 10, 30).node(0, 11, 31), 3);
            refused(() -> withTable(0, 20, 10, 30), x -> x.node(0, 10, 31), NOT_POSSIBLE);
            refused(() -> withTable(0, 20, 10, 30), x -> x.node(0, 11, 30), NOT_POSSIBLE);
        });
        sentence("A table that has two nodes at least goes from its first temperature to its last one.", () -> {
            due(withTable().ratio(0, 0), NOT_FOUND);
            due(withTable(0, 20).ratio(0, 0), NOT_FOUND);
            OhmBridge x = withTable(-3, 20, 4, 30);
            due(x.ratio(0, -4), NOT_FOUND);
            due(x.ratio(0, -3), 20);
            due(x.ratio(0, 4), 30);
            due(x.ratio(0, 5), NOT_FOUND);
            OhmBridge longer = withTable(-3, 20, 4, 30, 5, 40);
            due(longer.ratio(0, 5), 40);
            due(longer.ratio(0, 6), NOT_FOUND);
        });
        sentence("between two nodes with the temperatures a, b and the ratios p, q: p + (q - p) * (t - a) / (b - a)", () -> {
            OhmBridge x = withTable(-7, 100, 0, 200, 3, 201);
            due(x.ratio(0, -6), 114);
            due(x.ratio(0, -1), 185);
            due(x.ratio(0, 1), 200);
            due(x.ratio(0, 2), 200);
            // (q - p) * (t - a) is past 32 bits here
            due(widest().ratio(0, 849999), 9999990);
            due(widest().ratio(0, -199999), 10);
            // a width of 1: nothing is between
            due(withTable(0, 1, 1, 9).ratio(0, 1), 9);
        });
        sentence("at a node it is the ratio of the node", () -> {
            OhmBridge x = withTable(-7, 100, 0, 203, 3, 204, 10, 777);
            due(x.ratio(0, -7), 100);
            due(x.ratio(0, 0), 203);
            due(x.ratio(0, 3), 204);
            due(x.ratio(0, 10), 777);
        });
        sentence("The inverse of a ratio is the least temperature of the table at which the ratio is at least this one", () -> {
            OhmBridge x = withTable(-5, 100, 5, 105, 8, 120);
            due(x.inverse(0, 100), -5);
            due(x.inverse(0, 101), -3);
            due(x.inverse(0, 105), 5);
            due(x.inverse(0, 106), 6);
            due(x.inverse(0, 110), 6);
            due(x.inverse(0, 111), 7);
            due(x.inverse(0, 120), 8);
            // a step: the ratios between are those of its upper end
            due(withTable(0, 1, 1, 9).inverse(0, 2), 1);
            due(withTable(0, 1, 1, 9).inverse(0, 9), 1);
            due(widest().inverse(0, 10000000), 850000);
            due(widest().inverse(0, 9999990), 849999);
            due(widest().inverse(0, 9999991), 850000);
            due(widest().inverse(0, 2), -199999);
        });
        sentence("there is none if the ratio is below that of the first node or above that of the last one", () -> {
            OhmBridge x = withTable(-5, 100, 5, 105, 8, 120);
            due(x.inverse(0, 99), NOT_FOUND);
            due(x.inverse(0, 100), -5);
            due(x.inverse(0, 120), 8);
            due(x.inverse(0, 121), NOT_FOUND);
            due(widest().inverse(0, 1), -200000);
        });
    }

    private static OhmBridge withSensor(int wires) {
        OhmBridge x = Due.evenTable();
        x.sensor(0, wires, 100000);
        return x;
    }

    private static int firstTemperature(int from, int to) {
        OhmBridge x = withTable(from, 1000, to, 2000);
        x.sensor(0, 2, 1000);
        return x.sensorOf(0, 4);
    }

    private static void sensors() {
        sentence("There are at most 6 sensors, numbered from 0.", () -> {
            OhmBridge x = Due.evenTable();
            for (int number = 0; number < 6; number++) {
                due(x.sensor(0, 2, 1000), number);
            }
            due(x.count(1), 6);
            refused(Edges::full, y -> y.sensor(0, 2, 1000), LIMIT);
        });
        sentence("has 2, 3 or 4 wires", () -> {
            range(Due::evenTable, (x, wires) -> x.sensor(0, wires, 1000), 2, 0, 4, 0);
            due(withSensor(3).sensorOf(0, 1), 3);
        });
        sentence("a true base and an assumed base (1000 to 2000000 each)", () -> {
            range(Due::evenTable, (x, base) -> x.sensor(0, 2, base), 1000, 0, 2000000, 0);
            OhmBridge x = Due.evenTable();
            x.sensor(0, 2, 2000000);
            due(x.sensorOf(0, 2), 2000000);
            due(x.sensorOf(0, 3), 2000000);
        });
        sentence("(0 at first, or the first one of its table if 0 is below, or the last one if 0 is above that)", () -> {
            due(firstTemperature(-9, 9), 0);
            due(firstTemperature(0, 9), 0);
            due(firstTemperature(1, 9), 1);
            due(firstTemperature(-9, 0), 0);
            due(firstTemperature(-9, -1), -1);
            due(firstTemperature(849999, 850000), 849999);
            due(firstTemperature(-200000, -199999), -199999);
        });
        sentence("It has a lead for each of its wires (0 to 50000 each; 0 at first)", () -> {
            for (int wires = 2; wires <= 4; wires++) {
                OhmBridge x = withSensor(wires);
                for (int wire = 0; wire < 4; wire++) {
                    due(x.sensorOf(0, 5 + wire), wire < wires ? 0 : NOT_FOUND);
                }
                int last = wires - 1;
                range(() -> withSensor(last + 1), (y, lead) -> y.lead(0, last, lead), 0, 0, 50000, 0);
            }
        });
        sentence("a heating (0 to 5000; 0 at first)", () -> {
            due(withSensor(2).sensorOf(0, 9), 0);
            range(() -> withSensor(2), (x, heating) -> x.strain(0, 0, heating), 0, 0, 5000, 0);
        });
        sentence("a stray voltage (-100000 to 100000; 0 at first)", () -> {
            due(withSensor(2).sensorOf(0, 10), 0);
            range(() -> withSensor(2), (x, stray) -> x.strain(0, 1, stray), -100000, 0, 100000, 0);
        });
        sentence("wires that are broken or not (not, at first)", () -> {
            due(withSensor(4).sensorOf(0, 12), 0);
            for (int wire = 0; wire < 4; wire++) {
                due(withSensor(4).cut(0, wire, 0), NOT_POSSIBLE);
                due(withSensor(4).cut(0, wire, 1), 1);
            }
        });
        sentence("and is shorted or not (not, at first)", () -> {
            due(withSensor(2).sensorOf(0, 11), 0);
            due(withSensor(2).strain(0, 2, 1), 0);
            range(() -> withSensor(2), (x, shorted) -> x.strain(0, 2, shorted), 0, 0, 1, 0);
        });
        // a new sensor has nothing of one that was undone
        sentence("(not, at first)", () -> {
            OhmBridge x = withSensor(4);
            x.undo();
            x.sensor(0, 4, 100000);
            x.lead(0, 3, 7);
            x.strain(0, 0, 1);
            x.cut(0, 0, 1);
            x.undo();
            x.undo();
            x.undo();
            x.undo();
            x.sensor(0, 4, 100000);
            same(Told.of(x), Told.of(withSensor(4)).replace("count 6: 4", "count 6: 1"));
        });
        sentence("Its resistance at a temperature is base * ratio / 1000000, by the true base.", () -> {
            OhmBridge x = withTable(0, 1, 1, 999, 2, 1000, 3, 10000000);
            x.sensor(0, 2, 1000);
            due(x.ohms(0, 0), 0);
            x.bath(0, 1);
            due(x.ohms(0, 0), 0);
            x.bath(0, 2);
            due(x.ohms(0, 0), 1);
            x.bath(0, 3);
            due(x.ohms(0, 0), 10000);
            x.drift(0, 100000);
            due(x.ohms(0, 0), 11000);
            due(x.sensorOf(0, 3), 1000);
            // heat is by the true base, too: 110000 thousandths of an ohm warm it by 110
            OhmBridge hot = Due.exactSensor(4);
            hot.drift(0, 100000);
            hot.strain(0, 0, 1000);
            due(hot.ohms(0, 0), 110121);
        });
        sentence("By a current of c it is warmer by c * c * (its resistance at the temperature that it is at) / 1000000 * heating"
                + " / 1000000, but not warmer than the last temperature of its table", () -> {
            OhmBridge x = Due.exactSensor(4);
            x.strain(0, 0, 1000);
            due(x.ohms(0, 0), 100100);
            // 199801 thousandths of an ohm warm it by 199
            x.bath(0, 99801);
            due(x.ohms(0, 0), 200000);
            x.bath(0, 99800);
            due(x.ohms(0, 0), 199999);
            x.bath(0, 99802);
            due(x.ohms(0, 0), 200000);
            x.bath(0, 100000);
            due(x.ohms(0, 0), 200000);
            x.strain(0, 0, 0);
            due(x.ohms(0, 0), 200000);
            // far beyond the last one: 25000000 * 190000 / 1000000 * 5000 / 1000000 is 23750
            x.strain(0, 0, 5000);
            x.set(1, 5000);
            x.bath(0, 90000);
            due(x.ohms(0, 0), 200000);
            x.bath(0, -50000);
            due(x.ohms(0, 0), 56250);
        });
        sentence("If it is shorted, its heated resistance is 0 (and it is not warmer); its leads stay as they are.", () -> {
            OhmBridge x = Due.exactSensor(3);
            x.lead(0, 0, 100);
            x.lead(0, 1, 20);
            x.lead(0, 2, 3);
            x.strain(0, 0, 5000);
            x.strain(0, 2, 1);
            due(x.ohms(0, 0), 0);
            due(x.ohms(0, 2), 120);
            due(x.ohms(0, 3), 97);
            due(x.sensorOf(0, 5), 100);
            due(x.sensorOf(0, 4), 0);
            x.strain(0, 0, 0);
            x.strain(0, 2, 0);
            due(x.ohms(0, 2), 100120);
        });
    }

    private static int plugged(int wires, int card, int slot) {
        return withSensor(wires).plug(0, card, slot);
    }

    private static void cards() {
        sentence("There are four cards, 0 to 3, with 3 slots each", () -> {
            range(() -> withSensor(2), (x, slot) -> x.plug(0, 0, slot), 0, 1, 2, 1);
            range(() -> withSensor(4), (x, slot) -> x.plug(0, 3, slot), 0, 1, 2, 1);
            range(() -> withSensor(2), (x, card) -> x.plug(0, card, 2), 0, 1, 3, 1);
            range(Edges::busy, (x, card) -> x.slotAt(card, 0), 0, NOT_FOUND, 3, 0);
        });
        sentence("card 0 takes sensors with 2 wires alone, card 1 those with 3 wires, card 2 those with 4 wires, card 3 all", () -> {
            for (int wires = 2; wires <= 4; wires++) {
                int kind = wires;
                for (int card = 0; card <= 3; card++) {
                    int at = card;
                    if (card == 3 || card == wires - 2) {
                        due(plugged(wires, card, 0), 1);
                    } else {
                        refused(() -> withSensor(kind), x -> x.plug(0, at, 0), NOT_POSSIBLE);
                    }
                }
            }
        });
        sentence("A sensor is in one slot at most.", () -> {
            refused(() -> Due.exactSensor(4), x -> x.plug(0, 2, 0), NOT_POSSIBLE);
            refused(() -> Due.exactSensor(4), x -> x.plug(0, 3, 1), NOT_POSSIBLE);
            refused(() -> Due.exactSensor(4), x -> x.plug(0, 3, 0), NOT_POSSIBLE);
            OhmBridge x = Due.exactSensor(4);
            x.unplug(0);
            due(x.plug(0, 2, 0), 1);
            due(x.slotAt(3, 0), NOT_FOUND);
            due(x.slotAt(2, 0), 0);
            due(x.count(2), 1);
        });
    }

    private static void setting(int what, int least, int greatest, int first) {
        due(new OhmBridge().count(20 + what), first);
        range(OhmBridge::new, (x, value) -> x.set(what, value), least, first, greatest, first);
        OhmBridge x = new OhmBridge();
        x.set(what, least);
        due(x.count(20 + what), least);
        due(x.set(what, greatest), least);
        due(x.count(20 + what), greatest);
        for (int other = 0; other < 7; other++) {
            due(x.count(20 + other) == new OhmBridge().count(20 + other) ? 1 : 0, other == what ? 0 : 1);
        }
    }

    private static void settings() {
        sentence("0 the reference (10000 to 1000000; 100000)", () -> setting(0, 10000, 1000000, 100000));
        sentence("1 the current (100 to 5000; 1000)", () -> setting(1, 100, 5000, 1000));
        sentence("2 the second current (100 to 5000; 1414)", () -> setting(2, 100, 5000, 1414));
        sentence("3 the bits (8 to 24; 20)", () -> setting(3, 8, 24, 20));
        sentence("4 the limit of unlike leads (0 to 50000; 500)", () -> setting(4, 0, 50000, 500));
        sentence("5 the limit of the stray voltage (0 to 100000; 5000)", () -> setting(5, 0, 100000, 5000));
        sentence("6 how many readings a median takes (1 to 9; 3)", () -> setting(6, 1, 9, 3));
        sentence("The settings are (in parentheses: range; first value)", () -> {
            OhmBridge x = new OhmBridge();
            due(x.set(7, 1), INVALID);
            due(x.set(-1, 1), INVALID);
            due(x.set(6, 1), 3);
            x.undo();
            due(x.set(0, 10000), 100000);
        });
    }

    /** A sensor whose counts are its resistance: 131072 is the bound. */
    private static OhmBridge nearBound(int wires, int temperature) {
        OhmBridge x = Due.exactSensor(wires);
        x.set(0, 32768);
        x.set(3, 15);
        x.bath(0, temperature);
        return x;
    }

    /** The counts of a sensor without a resistance. */
    private static int straying(int stray, int way) {
        OhmBridge x = Due.exactSensor(4);
        x.set(0, 10000);
        x.set(3, 8);
        x.strain(0, 2, 1);
        x.strain(0, 1, stray);
        return x.counts(0, 100, 0, way);
    }

    /** A sensor that a current of 5000 warms to a ratio of its own, one of 4999 does not. */
    private static OhmBridge steep(int upperRatio) {
        OhmBridge x = withTable(0, 1000000, 24995, 1000001, 24996, upperRatio);
        x.sensor(0, 4, 200000);
        x.plug(0, 2, 0);
        x.set(0, 524288);
        x.set(1, 5000);
        x.set(2, 4999);
        x.strain(0, 0, 5000);
        return x;
    }

    private static void measuring() {
        sentence("Measured by a current c, one way or the other, a resistance of R has the voltage c * R + stray, the other way"
                + " -(c * R) + stray.", () -> {
            OhmBridge x = nearBound(4, 0);
            x.strain(0, 1, 2000);
            due(x.counts(0, 1000, 0, 0), 100002);
            due(x.counts(0, 1000, 0, 1), -99998);
            due(x.counts(0, 2000, 0, 0), 100001);
            x.strain(0, 1, -2000);
            due(x.counts(0, 1000, 0, 0), 99998);
            due(x.counts(0, 1000, 0, 1), -100002);
            // the stray voltage alone: 25.6 counts of the least current
            due(straying(100000, 0), 25);
            due(straying(100000, 1), 25);
            due(straying(-100000, 0), -25);
            due(straying(-100000, 2), 0);
        });
        sentence("Counts are the voltage * 2 to the power of the bits / (c * reference)", () -> {
            OhmBridge x = Due.exactSensor(4);
            due(x.counts(0, 1000, 0, 0), 800000);
            x.set(3, 8);
            due(x.counts(0, 1000, 0, 0), 195);
            due(x.counts(0, 1000, 0, 1), -195);
            x.set(3, 24);
            due(x.counts(0, 1000, 0, 0), 12800000);
            due(x.counts(0, 100, 0, 0), 12800000);
            due(x.counts(0, 5000, 0, 0), 12800000);
        });
        sentence("but at most 4 times that power, and at least as much below 0", () -> {
            due(nearBound(4, 31071).counts(0, 1000, 0, 0), 131071);
            due(nearBound(4, 31071).counts(0, 1000, 0, 1), -131071);
            due(nearBound(4, 31072).counts(0, 1000, 0, 0), 131072);
            due(nearBound(4, 31072).counts(0, 1000, 0, 1), -131072);
            due(nearBound(4, 31073).counts(0, 1000, 0, 0), 131072);
            due(nearBound(4, 31073).counts(0, 1000, 0, 1), -131072);
            due(nearBound(4, 100000).counts(0, 1000, 0, 2), 131072);
            OhmBridge second = nearBound(3, 0);
            second.lead(0, 1, 50000);
            second.lead(0, 2, 50000);
            due(second.counts(0, 1000, 1, 0), 100000);
            second.set(0, 16384);
            due(second.counts(0, 1000, 1, 0), 131072);
            due(second.counts(0, 1000, 1, 1), -131072);
            due(second.counts(0, 1000, 1, 2), 131072);
        });
        sentence("with 4 wires without any lead", () -> {
            for (int wires = 2; wires <= 4; wires++) {
                OhmBridge x = Due.exactSensor(wires);
                x.lead(0, 0, 100);
                x.lead(0, 1, 20);
                x.lead(0, wires - 1, 50);
                due(x.ohms(0, 2), wires == 4 ? 100000 : wires == 3 ? 100120 : 100150);
            }
        });
        sentence("both ways it counts (n - m) / 2", () -> {
            OhmBridge x = nearBound(4, 31071);
            x.strain(0, 1, 1000);
            due(x.counts(0, 1000, 0, 0), 131072);
            due(x.counts(0, 1000, 0, 1), -131070);
            due(x.counts(0, 1000, 0, 2), 131071);
            x.strain(0, 1, 2000);
            // cut off one way: (131072 + 131069) / 2
            due(x.counts(0, 1000, 0, 0), 131072);
            due(x.counts(0, 1000, 0, 2), 131070);
        });
        sentence("With 3 wires, there is a second loop of the leads of its wires 1 and 2 (without heat; with the stray voltage"
                + " likewise).", () -> {
            OhmBridge x = nearBound(3, 0);
            x.lead(0, 0, 500);
            x.lead(0, 1, 30);
            x.lead(0, 2, 4);
            x.strain(0, 0, 5000);
            x.strain(0, 1, 3000);
            due(x.counts(0, 1000, 1, 0), 37);
            due(x.counts(0, 1000, 1, 1), -31);
            due(x.counts(0, 1000, 1, 2), 34);
            x.strain(0, 2, 1);
            due(x.counts(0, 1000, 1, 0), 37);
            due(nearBound(2, 0).counts(0, 1000, 1, 0), NOT_FOUND);
            due(nearBound(4, 0).counts(0, 1000, 1, 0), NOT_FOUND);
        });
        sentence("with 3 wires minus that by the counts both ways of the second loop", () -> {
            OhmBridge x = nearBound(3, 0);
            x.lead(0, 0, 500);
            x.lead(0, 1, 30);
            x.lead(0, 2, 4);
            due(x.ohms(0, 3), 100496);
            due(x.ohms(0, 4), 100496);
            x.lead(0, 2, 50000);
            x.strain(0, 2, 1);
            due(x.ohms(0, 3), 530 - 50030);
            OhmBridge two = nearBound(2, 0);
            two.lead(0, 1, 30);
            due(two.ohms(0, 3), 100030);
        });
        sentence("The resistance without power is x - (y - x) * c * c / (d * d - c * c)", () -> {
            OhmBridge x = Due.exactSensor(4);
            due(x.ohms(0, 5), 100000);
            x.strain(0, 0, 1000);
            // 99 * 1000000 / 999396 is 99
            due(x.ohms(0, 3), 100100);
            due(x.ohms(0, 4), 100199);
            due(x.ohms(0, 5), 100001);
            // the second current may be the lesser one: 75 * 1000000 / 750000 is 100
            x.set(2, 500);
            due(x.ohms(0, 4), 100025);
            due(x.ohms(0, 5), 100000);
        });
        sentence("but at least -2000000000 and at most 2000000000", () -> {
            // y is 200000; 800320 * 25000000 / 9999 is 2001000100, and one more is 2500 more
            due(steep(5001600).ohms(0, 3), 1000320);
            due(steep(5001600).ohms(0, 4), 200000);
            due(steep(5001600).ohms(0, 5), -1999999780);
            due(steep(5001605).ohms(0, 3), 1000321);
            due(steep(5001605).ohms(0, 5), -2000000000);
            due(steep(10000000).ohms(0, 5), -2000000000);
            // the greatest one that a sensor comes to is far below the upper end
            OhmBridge x = widest();
            x.sensor(0, 4, 2000000);
            x.bath(0, 850000);
            x.set(0, 1000000);
            due(x.ohms(0, 5), 4000000);
        });
        sentence("if both currents are the same, it is x", () -> {
            OhmBridge x = steep(5004000);
            x.set(2, 5000);
            due(x.ohms(0, 5), 1000800);
            x.set(1, 4999);
            x.set(2, 4999);
            due(x.ohms(0, 5), 200000);
            x.set(2, 5000);
            due(x.ohms(0, 5), -2000000000);
        });
        sentence("The temperature by a resistance is the inverse of resistance * 1000000 / (the assumed base).", () -> {
            OhmBridge x = withTable(0, 999999, 1, 1000000, 2, 2000000);
            x.set(0, 131072);
            x.sensor(0, 4, 1000);
            x.plug(0, 2, 0);
            // 1 / 1000000 is lost in the resistance: 999 * 1000000 / 1000 is below the first node
            due(x.ohms(0, 5), 999);
            due(x.diagnosis(0), 7);
            x.bath(0, 1);
            due(x.read(0), 1);
            x.bath(0, 2);
            due(x.read(0), 2);
            // by the assumed base, not by the true one
            OhmBridge drifted = Due.exactSensor(4);
            drifted.drift(0, -10000);
            due(drifted.read(0), -1000);
            drifted.calibrate(0, 0);
            due(drifted.read(0), 0);
        });
    }

    /** A sensor with all faults from a number on, and none before it. */
    private static OhmBridge faulty(int first) {
        OhmBridge x = Due.evenTable();
        x.sensor(0, 3, 100000);
        x.set(0, 10000);
        x.strain(0, 1, -6000);
        x.lead(0, 0, 30000);
        x.bath(0, -50000);
        if (first <= 3) {
            x.lead(0, 2, 50000);
        }
        if (first <= 2) {
            x.cut(0, 2, 1);
        }
        if (first > 1) {
            x.plug(0, 3, 0);
        }
        if (first > 4) {
            x.set(0, 100000);
            x.lead(0, 2, 31000);
        }
        if (first > 5) {
            x.lead(0, 0, 0);
            x.lead(0, 2, 1000);
        }
        if (first > 6) {
            x.strain(0, 1, 0);
        }
        if (first > 7) {
            x.lead(0, 2, 0);
        }
        return x;
    }

    private static int unlike(int wires, int lead0, int lead1, int limit) {
        OhmBridge x = Due.exactSensor(wires);
        x.lead(0, 0, lead0);
        x.lead(0, 1, lead1);
        x.set(4, limit);
        return x.diagnosis(0);
    }

    private static int strayed(int stray, int limit) {
        OhmBridge x = Due.exactSensor(4);
        x.strain(0, 1, stray);
        x.set(5, limit);
        return x.diagnosis(0);
    }

    private static int atRatio(int ratio, int base) {
        OhmBridge x = withTable(0, ratio, 1, 9000000);
        x.set(0, 131072);
        x.sensor(0, 4, base);
        x.plug(0, 2, 0);
        return x.diagnosis(0);
    }

    private static int nearBoundBy(int temperature, int stray) {
        OhmBridge x = nearBound(4, temperature);
        x.strain(0, 1, stray);
        return x.diagnosis(0);
    }

    private static void diagnosis() {
        sentence("The diagnosis of a sensor is the first of these that is so", () -> {
            for (int first = 1; first <= 7; first++) {
                due(faulty(first).diagnosis(0), first);
            }
        });
        sentence("otherwise it is 0", () -> due(faulty(8).diagnosis(0), 0));
        sentence("1 it is not plugged", () -> {
            OhmBridge x = Due.exactSensor(4);
            due(x.diagnosis(0), 0);
            x.unplug(0);
            due(x.diagnosis(0), 1);
            x.plug(0, 2, 2);
            due(x.diagnosis(0), 0);
        });
        sentence("2 a wire of it is broken (what it counts does not change by that)", () -> {
            for (int wires = 2; wires <= 4; wires++) {
                for (int wire = 0; wire < wires; wire++) {
                    OhmBridge x = Due.exactSensor(wires);
                    x.cut(0, wire, 1);
                    due(x.diagnosis(0), 2);
                    due(x.counts(0, 1000, 0, 0), 800000);
                    due(x.ohms(0, 5), 100000);
                    x.cut(0, wire, 0);
                    due(x.diagnosis(0), 0);
                }
            }
        });
        sentence("3 its resistance without power is less than the assumed base / 10 (shorted)", () -> {
            due(atRatio(100000, 100000), 0);
            due(atRatio(99999, 100000), 3);
            // 100009 / 10 is 10000: 99991 / 1000000 of it are 9999, 99992 are 10000 (too few for its first node)
            due(atRatio(99992, 100009), 7);
            due(atRatio(99991, 100009), 3);
            OhmBridge x = Due.exactSensor(4);
            x.strain(0, 2, 1);
            due(x.diagnosis(0), 3);
            // calibrated to 5555: 5000 are enough for it now, though not for the true base of 100000
            OhmBridge y = withTable(0, 50000, 1, 500000, 2, 9000000);
            y.set(0, 131072);
            y.sensor(0, 4, 100000);
            y.plug(0, 2, 0);
            due(y.diagnosis(0), 3);
            y.bath(0, 1);
            due(y.calibrate(0, 2), 5555);
            y.bath(0, 0);
            due(y.ohms(0, 5), 5000);
            due(y.diagnosis(0), 0);
            // leads that are measured as its own
            OhmBridge two = Due.exactSensor(2);
            two.strain(0, 2, 1);
            two.lead(0, 0, 9999);
            due(two.diagnosis(0), 3);
            two.lead(0, 0, 10000);
            due(two.diagnosis(0), 7);
            due(steep(5004000).diagnosis(0), 3);
        });
        sentence("4 the counts of its loop one way or the other, by one of both currents, are at a bound (too great)", () -> {
            due(nearBoundBy(31071, 0), 0);
            due(nearBoundBy(31072, 0), 4);
            due(nearBoundBy(31073, 0), 4);
            due(nearBoundBy(31071, 999), 0);
            due(nearBoundBy(31071, 1000), 4);
            due(nearBoundBy(31071, -999), 0);
            due(nearBoundBy(31071, -1000), 4);
            due(nearBoundBy(100000, 0), 4);
            // by the second current alone, that warms it by 1 more or strays more
            OhmBridge hot = nearBound(4, 31070);
            hot.strain(0, 0, 5);
            due(hot.counts(0, 1000, 0, 0), 131070);
            due(hot.counts(0, 1414, 0, 0), 131071);
            due(hot.diagnosis(0), 0);
            hot.bath(0, 31071);
            due(hot.counts(0, 1000, 0, 0), 131071);
            due(hot.counts(0, 1414, 0, 0), 131072);
            due(hot.diagnosis(0), 4);
            hot.set(2, 1000);
            due(hot.diagnosis(0), 0);
            hot.set(1, 1414);
            due(hot.diagnosis(0), 4);
        });
        sentence("5 it has 3 wires, and its leads of wires 0 and 1 differ by more than the limit", () -> {
            due(unlike(3, 500, 0, 500), 0);
            due(unlike(3, 501, 0, 500), 5);
            due(unlike(3, 0, 500, 500), 0);
            due(unlike(3, 0, 501, 500), 5);
            due(unlike(3, 0, 0, 0), 0);
            due(unlike(3, 1, 0, 0), 5);
            due(unlike(3, 600, 100, 500), 0);
            due(unlike(3, 601, 100, 500), 5);
            due(unlike(3, 100, 601, 500), 5);
            due(unlike(3, 50000, 50000, 0), 0);
            due(unlike(3, 50000, 0, 50000), 0);
            due(unlike(3, 50000, 0, 49999), 5);
            due(unlike(2, 501, 0, 500), 0);
            due(unlike(4, 501, 0, 500), 0);
            OhmBridge x = Due.exactSensor(3);
            x.lead(0, 2, 501);
            due(x.diagnosis(0), 0);
        });
        sentence("6 the size of its stray voltage is above the limit", () -> {
            due(strayed(5000, 5000), 0);
            due(strayed(5001, 5000), 6);
            due(strayed(-5000, 5000), 0);
            due(strayed(-5001, 5000), 6);
            due(strayed(0, 0), 0);
            due(strayed(1, 0), 6);
            due(strayed(-1, 0), 6);
            due(strayed(100000, 100000), 0);
            due(strayed(-100000, 99999), 6);
        });
        sentence("7 its table has no inverse of its ratio", () -> {
            OhmBridge x = Due.exactSensor(3);
            x.bath(0, 100000);
            due(x.diagnosis(0), 0);
            x.lead(0, 0, 1);
            due(x.diagnosis(0), 7);
            x.bath(0, 99999);
            due(x.diagnosis(0), 0);
            x.lead(0, 0, 0);
            x.bath(0, -50000);
            due(x.diagnosis(0), 0);
            x.lead(0, 2, 1);
            due(x.diagnosis(0), 7);
            x.bath(0, -49999);
            due(x.diagnosis(0), 0);
        });
    }

    /** A sensor with four wires that was read at these temperatures. */
    private static OhmBridge readAt(int... temperatures) {
        OhmBridge x = Due.exactSensor(4);
        for (int temperature : temperatures) {
            x.bath(0, temperature);
            x.read(0);
        }
        return x;
    }

    private static int medianOf(int taken, int... temperatures) {
        OhmBridge x = readAt(temperatures);
        x.set(6, taken);
        return x.median(0);
    }

    /** The alarm by the limits low, high and hysteresis after readings in turn. */
    private static int alarm(int low, int high, int hysteresis, int... temperatures) {
        OhmBridge x = Due.exactSensor(4);
        x.limits(0, low, high, hysteresis);
        for (int temperature : temperatures) {
            x.bath(0, temperature);
            due(x.read(0), temperature);
        }
        return x.sensorOf(0, 17);
    }

    /** Six sensors of which none is plugged: two with two wires, two with three, two with four. */
    private static OhmBridge unplugged() {
        OhmBridge x = Due.evenTable();
        x.set(0, 131072);
        for (int sensor = 0; sensor < 6; sensor++) {
            x.sensor(0, sensor % 3 + 2, 100000);
        }
        return x;
    }

    private static void reading() {
        sentence("A sensor whose diagnosis is 0 can be read", () -> {
            for (int first = 1; first <= 7; first++) {
                int fault = first;
                refused(() -> faulty(fault), x -> x.read(0), NOT_POSSIBLE);
            }
            due(faulty(8).read(0), -50000);
        });
        sentence("the temperature by its resistance without power is its reading, which is logged", () -> {
            OhmBridge x = readAt(-50000);
            due(x.readingAt(0, 0), -50000);
            x.bath(0, 100000);
            due(x.read(0), 100000);
            due(x.readingAt(0, 0), 100000);
        });
        sentence("of each sensor the latest 9 readings are kept", () -> {
            OhmBridge x = readAt(1, 2, 3, 4, 5, 6, 7, 8, 9);
            due(x.readingAt(0, 8), 1);
            due(x.readingAt(0, 9), NOT_FOUND);
            x.bath(0, 10);
            x.read(0);
            for (int index = 0; index < 9; index++) {
                due(x.readingAt(0, index), 10 - index);
            }
            due(x.readingAt(0, 9), NOT_FOUND);
            due(x.sensorOf(0, 18), 10);
            x.undo();
            due(x.readingAt(0, 8), 1);
            // those of another sensor are its own
            OhmBridge full = full();
            full.read(1);
            due(full.readingAt(1, 0), 0);
            due(full.readingAt(1, 1), NOT_FOUND);
            due(full.readingAt(0, 8), 2);
        });
        sentence("The median is that of the latest readings, as many as the setting tells (fewer, if there are fewer)", () -> {
            due(medianOf(1, 5, 7, 6), 6);
            due(medianOf(3, 9, 5, 7, 6), 6);
            due(medianOf(3, 5, 1, 2), 2);
            due(medianOf(3, 5), 5);
            due(medianOf(9, 5), 5);
            due(medianOf(9, 9, 8, 7), 8);
            due(medianOf(9, 1, 9, 2, 8, 3, 7, 4, 6, 5), 5);
            // the tenth one back is not kept any more
            due(medianOf(9, 90, 1, 2, 3, 4, 5, 6, 7, 8, 9), 5);
            due(medianOf(9, -90, 1, 2, 3, 4, 5, 6, 7, 8, 9), 5);
        });
        sentence("they are sorted, and of an even number the lower one of both in the middle is taken", () -> {
            due(medianOf(2, 5, 7), 5);
            due(medianOf(2, 7, 5), 5);
            due(medianOf(2, 7, 7), 7);
            due(medianOf(4, 4, 1, 3, 2), 2);
            due(medianOf(8, 8, 7, 6, 5, 4, 3, 2, 1), 4);
            due(medianOf(3, 7, -5), -5);
            due(medianOf(5, 3, 3, 1, 1, 1), 1);
        });
        sentence("low (-200000 at first), high (850000 at first), hysteresis (0 to 100000; 0 at first)", () -> {
            OhmBridge x = withSensor(2);
            due(x.sensorOf(0, 14), -200000);
            due(x.sensorOf(0, 15), 850000);
            due(x.sensorOf(0, 16), 0);
            range(() -> withSensor(2), (y, slack) -> y.limits(0, 0, 0, slack), 0, 0, 100000, 0);
            // no reading is beyond the first limits
            OhmBridge far = widest();
            far.set(0, 1000000);
            far.set(3, 24);
            far.sensor(0, 4, 100000);
            far.plug(0, 2, 0);
            far.bath(0, 850000);
            due(far.read(0), 850000);
            due(far.sensorOf(0, 17), 0);
        });
        sentence("Behind a reading, an alarm that is off goes on if the reading is below the low limit or above the high one", () -> {
            due(alarm(-10, 20, 0), 0);
            due(alarm(-10, 20, 0, -10), 0);
            due(alarm(-10, 20, 0, -11), 1);
            due(alarm(-10, 20, 0, 20), 0);
            due(alarm(-10, 20, 0, 21), 1);
            due(alarm(-10, 20, 100000, -10, 20), 0);
            due(alarm(5, 5, 0, 5), 0);
            due(alarm(5, 5, 0, 4), 1);
            due(alarm(5, 5, 0, 6), 1);
        });
        sentence("one that is on goes off if the reading is at least low + hysteresis and at most high - hysteresis", () -> {
            due(alarm(-10, 20, 4, -11, -7), 1);
            due(alarm(-10, 20, 4, -11, -6), 0);
            due(alarm(-10, 20, 4, 21, 17), 1);
            due(alarm(-10, 20, 4, 21, 16), 0);
            due(alarm(-10, 20, 4, -11, 17), 1);
            due(alarm(-10, 20, 4, 21, -7), 1);
            due(alarm(-10, 20, 0, -11, -10), 0);
            due(alarm(-10, 20, 0, 21, 20), 0);
            due(alarm(-10, 20, 0, 21, -11, 21), 1);
            due(alarm(-10, 20, 15, 21, 5), 0);
            due(alarm(-10, 20, 15, 21, 6), 1);
            due(alarm(-10, 20, 16, 21, 5), 1);
        });
        sentence("The scanner goes from card to card, and in each from slot to slot", () -> {
            OhmBridge x = unplugged();
            x.plug(5, 3, 2);
            x.plug(4, 1, 0);
            x.plug(3, 0, 1);
            x.plug(2, 2, 0);
            x.plug(1, 1, 2);
            x.plug(0, 0, 0);
            int[] due = {0, 3, 4, 1, 2, 5, 0};
            for (int sensor : due) {
                due(x.scan(), sensor);
            }
        });
        sentence("scanning reads the first plugged sensor behind the place where it was last", () -> {
            OhmBridge x = unplugged();
            x.plug(0, 0, 1);
            due(x.scan(), 0);
            x.plug(3, 0, 0);
            x.plug(1, 1, 1);
            due(x.scan(), 1);
            due(x.scan(), 3);
            due(x.sensorOf(3, 18), 1);
            due(x.scan(), 0);
            due(x.sensorOf(0, 18), 2);
            // reading alone does not move it
            x.read(1);
            due(x.count(5), 1);
        });
        sentence("round from card 3 to card 0 (from card 0, slot 0 on at first)", () -> {
            OhmBridge x = unplugged();
            x.plug(0, 0, 0);
            x.plug(1, 3, 2);
            due(x.scan(), 0);
            due(x.count(5), 0);
            due(x.scan(), 1);
            due(x.count(5), 32);
            due(x.scan(), 0);
            due(x.count(5), 0);
            // the last slot alone, from the very beginning
            OhmBridge last = unplugged();
            last.plug(1, 3, 2);
            due(last.scan(), 1);
        });
        sentence("that place itself the last one (also if it is empty by now)", () -> {
            OhmBridge alone = Due.exactSensor(4);
            due(alone.scan(), 0);
            due(alone.scan(), 0);
            OhmBridge x = unplugged();
            x.plug(0, 3, 1);
            x.scan();
            x.unplug(0);
            due(x.count(5), 31);
            refused(() -> {
                OhmBridge y = Due.exactSensor(4);
                y.scan();
                y.unplug(0);
                return y;
            }, y -> y.scan(), NOT_POSSIBLE);
            // behind the empty place, not from the first one on
            x.plug(1, 3, 2);
            x.plug(3, 0, 0);
            due(x.scan(), 1);
            due(x.scan(), 3);
            // another sensor in the place where it was last
            x.unplug(3);
            x.plug(0, 0, 0);
            due(x.scan(), 1);
            due(x.scan(), 0);
        });
    }

    private static void fault(OhmBridge x, String text, int position, int reason) {
        due(type(x, text, 0), position);
        due(x.fault(1), reason);
    }

    private static void form(String text, boolean right) {
        fault(Due.exactSensor(3), text, right ? NOT_FOUND : 0, right ? NOT_FOUND : 1);
    }

    private static OhmBridge typed(String text) {
        OhmBridge x = Due.exactSensor(3);
        Due.type(x, text);
        return x;
    }

    private static String scans(int many) {
        StringBuilder text = new StringBuilder();
        for (int scan = 0; scan < many; scan++) {
            text.append("s;");
        }
        return text.toString();
    }

    private static void texts() {
        sentence("There is a text of at most 60 characters, initially empty", () -> {
            OhmBridge x = new OhmBridge();
            due(x.count(7), 0);
            due(x.clearText(), 0);
            for (int length = 1; length <= 60; length++) {
                due(x.type(32 + length), length);
            }
            refused(Edges::full, y -> y.type('s'), LIMIT);
            due(typed(scans(30)).play(), 30);
            // the last character of 60 is not lost: without it there would be no fault
            fault(Due.exactSensor(3), scans(29) + "s?", 58, 1);
            fault(Due.exactSensor(3), scans(29) + "s", 58, 1);
            // a 61st one is not taken
            due(typed(scans(30) + "?").play(), 30);
        });
        sentence("orders, each followed by \";\"", () -> {
            form("s;", true);
            form("s", false);
            form(";", false);
            form("", true);
            fault(Due.exactSensor(3), "s;;", 2, 1);
            fault(Due.exactSensor(3), "s;s", 2, 1);
            fault(Due.exactSensor(3), "r0;r0", 3, 1);
            form("r0,", false);
            form("t0,5", false);
            form("b0,1:", false);
            form(" s;", false);
            form("s ;", false);
        });
        sentence("\"t\" a sensor \",\" a temperature (it is at this temperature)", () -> {
            form("t0,5;", true);
            form("t0;", false);
            form("t0,;", false);
            form("t,5;", false);
            form("t0,5,;", false);
            form("t0.5;", false);
            form("T0,5;", false);
            OhmBridge x = typed("t0,100000;t0,-50000;");
            due(x.play(), 2);
            due(x.sensorOf(0, 4), -50000);
        });
        sentence("\"r\" a sensor (it is read)", () -> {
            form("r0;", true);
            form("r;", false);
            form("r0,0;", false);
            form("R0;", false);
            OhmBridge x = typed("r0;");
            due(x.play(), 1);
            due(x.sensorOf(0, 18), 1);
        });
        sentence("\"b\" a sensor \",\" a wire (it is broken)", () -> {
            form("b0,2;", true);
            form("b0;", false);
            form("b0,;", false);
            form("B0,2;", false);
            OhmBridge x = typed("b0,2;");
            due(x.play(), 1);
            due(x.sensorOf(0, 12), 4);
        });
        sentence("\"m\" a sensor \",\" a wire (it is mended)", () -> {
            form("b0,2;m0,2;", true);
            form("m0;", false);
            form("m0,;", false);
            form("M0,2;", false);
            OhmBridge x = Due.exactSensor(3);
            x.cut(0, 2, 1);
            Due.type(x, "m0,2;");
            due(x.play(), 1);
            due(x.sensorOf(0, 12), 0);
        });
        sentence("or \"s\" (scanning)", () -> {
            form("s;", true);
            form("s0;", false);
            form("S;", false);
            OhmBridge x = typed("s;");
            due(x.play(), 1);
            due(x.count(5), 30);
            due(x.sensorOf(0, 18), 1);
        });
        sentence("numbers of 1 to 6 digits, 0 ahead allowed", () -> {
            form("r000000;", true);
            form("r0000000;", false);
            form("r;", false);
            form("t000000,000005;", true);
            form("t0,0000005;", false);
            form("t0000000,5;", false);
            form("b000000,000002;", true);
            form("b0,0000002;", false);
            form("b0000000,2;", false);
            form("r+0;", false);
            form("t0,/;", false);
            form("t0,:;", false);
            form("r /;", false);
            form("r0a;", false);
            fault(Due.exactSensor(3), "r999999;", 0, 2);
            fault(Due.exactSensor(3), "r1000000;", 0, 1);
            fault(Due.exactSensor(3), "t0,999999;", 0, 3);
            fault(Due.exactSensor(3), "t0,1000000;", 0, 1);
            OhmBridge x = typed("t00,000099;");
            due(x.play(), 1);
            due(x.sensorOf(0, 4), 99);
            Due.type(x, "t0,012345;");
            due(x.play(), 1);
            due(x.sensorOf(0, 4), 12345);
        });
        sentence("a temperature with \"-\" ahead or not", () -> {
            form("t0,-5;", true);
            form("t0,-0;", true);
            form("t0,-000005;", true);
            form("t0,-0000005;", false);
            form("t0,-;", false);
            form("t0,--5;", false);
            form("t0,5-;", false);
            form("t-0,5;", false);
            form("r-0;", false);
            form("b0,-0;", false);
            form("m0,-0;", false);
            OhmBridge x = typed("t0,-5;");
            x.play();
            due(x.sensorOf(0, 4), -5);
        });
        sentence("The fault of the text is the position, from 0, of the first character of the first order that is not possible", () -> {
            fault(Due.exactSensor(3), "r1;", 0, 2);
            fault(Due.exactSensor(3), "r0;r1;r2;", 3, 2);
            fault(Due.exactSensor(3), "r0;r1;x;", 3, 2);
            fault(Due.exactSensor(3), "r0;t0,999999;x;", 3, 3);
            fault(Due.exactSensor(3), "s;s; s;", 4, 1);
            fault(Due.exactSensor(3), scans(29) + "r9", 58, 1);
            fault(Due.exactSensor(3), scans(28) + "s;r;", 58, 1);
            fault(Due.exactSensor(3), scans(28) + "r9;", 56, 2);
            fault(Due.exactSensor(3), scans(29) + "s;", NOT_FOUND, NOT_FOUND);
        });
        sentence("its reason is 1 if it is not of this form, its \";\" included", () -> {
            fault(Due.exactSensor(3), "r9", 0, 1);
            fault(Due.exactSensor(3), "t9,999999", 0, 1);
            fault(Due.exactSensor(3), "b9,9,", 0, 1);
            fault(Due.exactSensor(3), "m0,0", 0, 1);
            fault(Due.exactSensor(3), "?", 0, 1);
            fault(Due.exactSensor(3), "r0; ", 3, 1);
        });
        sentence("2 if there is no such sensor or it has no such wire", () -> {
            OhmBridge x = Due.exactSensor(2);
            fault(x, "b0,1;", NOT_FOUND, NOT_FOUND);
            fault(x, "b0,2;", 0, 2);
            fault(x, "m0,2;", 0, 2);
            fault(x, "b0,32;", 0, 2);
            fault(x, "b1,0;", 0, 2);
            fault(x, "m1,0;", 0, 2);
            fault(x, "r1;", 0, 2);
            fault(x, "t1,999999;", 0, 2);
            fault(x, "r000001;", 0, 2);
            fault(new OhmBridge(), "r0;", 0, 2);
            x.sensor(0, 4, 100000);
            fault(x, "b1,3;", NOT_FOUND, NOT_FOUND);
            fault(x, "b1,4;", 0, 2);
            fault(x, "b2,0;", 0, 2);
            fault(full(), "b5,1;", NOT_FOUND, NOT_FOUND);
            fault(full(), "b6,1;", 0, 2);
        });
        sentence("and 3 if it is not possible otherwise (by what bath, read, cut and scan tell, a temperature out of range, too)", () -> {
            fault(Due.exactSensor(3), "t0,100000;", NOT_FOUND, NOT_FOUND);
            fault(Due.exactSensor(3), "t0,100001;", 0, 3);
            fault(Due.exactSensor(3), "t0,-50000;", NOT_FOUND, NOT_FOUND);
            fault(Due.exactSensor(3), "t0,-50001;", 0, 3);
            OhmBridge wide = widest();
            wide.sensor(0, 2, 100000);
            fault(wide, "t0,850000;", NOT_FOUND, NOT_FOUND);
            fault(wide, "t0,850001;", 0, 3);
            fault(wide, "t0,-200000;", NOT_FOUND, NOT_FOUND);
            fault(wide, "t0,-200001;", 0, 3);
            fault(wide, "t0,-999999;", 0, 3);
            // by its own table, not by the first one
            OhmBridge second = Due.exactSensor(3);
            second.table();
            second.node(1, 100001, 1000000);
            second.node(1, 200000, 2000000);
            second.sensor(1, 2, 100000);
            fault(second, "t1,100001;", NOT_FOUND, NOT_FOUND);
            fault(second, "t1,100000;", 0, 3);
            fault(second, "t1,200000;", NOT_FOUND, NOT_FOUND);
            fault(second, "t1,200001;", 0, 3);
            for (int first = 1; first <= 7; first++) {
                fault(faulty(first), "r0;", 0, 3);
            }
            fault(faulty(8), "r0;", NOT_FOUND, NOT_FOUND);
            OhmBridge x = Due.exactSensor(3);
            fault(x, "m0,1;", 0, 3);
            x.cut(0, 1, 1);
            fault(x, "m0,1;", NOT_FOUND, NOT_FOUND);
            fault(x, "b0,1;", 0, 3);
            fault(x, "b0,2;", NOT_FOUND, NOT_FOUND);
            // scanning is possible even if the sensor cannot be read, but not without one
            fault(x, "s;", NOT_FOUND, NOT_FOUND);
            x.unplug(0);
            fault(x, "s;", 0, 3);
            fault(new OhmBridge(), "s;", 0, 3);
        });
        sentence("when those ahead of it are done", () -> {
            fault(Due.exactSensor(3), "b0,1;b0,1;", 5, 3);
            fault(Due.exactSensor(3), "b0,1;m0,1;", NOT_FOUND, NOT_FOUND);
            fault(Due.exactSensor(3), "b0,1;r0;", 5, 3);
            fault(Due.exactSensor(3), "b0,1;m0,1;r0;", NOT_FOUND, NOT_FOUND);
            OhmBridge x = Due.exactSensor(2);
            x.lead(0, 0, 1);
            x.bath(0, 100000);
            fault(x, "r0;", 0, 3);
            fault(x, "t0,99999;r0;", NOT_FOUND, NOT_FOUND);
            fault(x, "t0,99999;r0;t0,100000;r0;", 22, 3);
            // only tried: nothing of it is left
            due(x.sensorOf(0, 4), 100000);
            due(x.sensorOf(0, 18), 0);
            fault(x, "b0,0;m0,0;m0,0;", 10, 3);
            due(x.sensorOf(0, 12), 0);
        });
    }

    /** The changes, each possible on changeable(). */
    private static int change(OhmBridge x, int which) {
        switch (which) {
            case 0: return x.table();
            case 1: return x.node(1, 301, 5001);
            case 2: return x.sensor(0, 3, 7000);
            case 3: return x.plug(1, 0, 0);
            case 4: return x.unplug(0);
            case 5: return x.bath(0, 77);
            case 6: return x.lead(0, 2, 1);
            case 7: return x.strain(0, 1, 9);
            case 8: return x.cut(0, 2, 1);
            case 9: return x.drift(0, 20);
            case 10: return x.calibrate(0, 700);
            case 11: return x.limits(0, 1, 2, 3);
            case 12: return x.set(6, 9);
            case 13: return x.read(0);
            case 14: return x.scan();
            default: return x.play();
        }
    }

    private static final int CHANGES = 16;

    private static OhmBridge changeable() {
        OhmBridge x = busy();
        Due.type(x, "r0;t0,3;");
        return x;
    }

    /** A change that leaves every number as it was. */
    private static int changeOfNothing(OhmBridge x, int which) {
        switch (which) {
            case 0: return x.set(6, 4);
            case 1: return x.bath(0, 0);
            case 2: return x.lead(0, 0, 9);
            case 3: return x.strain(0, 1, 40);
            case 4: return x.drift(0, 0);
            case 5: return x.limits(1, -200000, 850000, 0);
            default: return x.play();
        }
    }

    /** It is a change all the same. */
    private static void changesOfNothing() {
        for (int which = 0; which <= 6; which++) {
            OhmBridge x = busy();
            x.clearText();
            String before = Told.of(x);
            due(changeOfNothing(x, which) > INVALID ? 1 : 0, 1);
            same(Told.of(x), before);
            due(x.undo(), 3);
            same(Told.of(x).replace("count 6: 3", "count 6: 4"), before);
            due(x.set(6, 9), 4);
            due(x.count(6), 4);
            x.undo();
            x.undo();
            due(x.count(26), 3);
            due(changeOfNothing(x, which) > INVALID ? 1 : 0, 1);
            due(x.count(6), 3);
        }
        OhmBridge calibrated = Due.exactSensor(4);
        calibrated.set(4, 1);
        calibrated.undo();
        due(calibrated.calibrate(0, 0), 100000);
        due(calibrated.count(6), 4);
        OhmBridge empty = new OhmBridge();
        due(empty.play(), 0);
        due(empty.count(6), 1);
        due(empty.undo(), 0);
    }

    private static int askedOnly(OhmBridge x, int which) {
        switch (which) {
            case 0: return x.nodeAt(0, 0, 0);
            case 1: return x.ratio(0, 0);
            case 2: return x.inverse(0, 1000000);
            case 3: return x.slotAt(3, 0);
            case 4: return x.sensorOf(0, 0);
            case 5: return x.counts(0, 1000, 1, 2);
            case 6: return x.ohms(0, 5);
            case 7: return x.diagnosis(0);
            case 8: return x.readingAt(0, 0);
            case 9: return x.median(0);
            case 10: return x.meanBits(0);
            case 11: return x.count(0);
            default: return x.fault(0);
        }
    }

    private static void changes() {
        sentence("The changes are the calls of table, node, sensor, plug, unplug, bath, lead, strain, cut, drift, calibrate, limits,"
                + " set, read, scan and play that return no error.", () -> {
            for (int which = 0; which < CHANGES; which++) {
                OhmBridge x = changeable();
                x.undo();
                due(x.count(6), 3);
                due(change(x, which) > INVALID ? 1 : 0, 1);
                due(x.count(6), 4);
            }
            changesOfNothing();
            for (int which = 0; which <= 12; which++) {
                OhmBridge x = changeable();
                askedOnly(x, which);
                same(Told.of(x), Told.of(changeable()));
                x.undo();
                OhmBridge y = changeable();
                y.undo();
                same(Told.of(x), Told.of(y));
            }
            OhmBridge x = changeable();
            x.undo();
            x.type('s');
            x.clearText();
            due(x.count(6), 3);
        });
        sentence("A history of at most 4 states is kept: each change records everything before it but the text, and if there are"
                + " 5 states then, the oldest one is dropped.", () -> {
            for (int which = 0; which < CHANGES; which++) {
                OhmBridge x = changeable();
                change(x, which);
                due(x.count(6), 4);
                due(x.undo(), 3);
                OhmBridge y = changeable();
                String before = Told.of(y).replace("count 6: 4", "count 6: 3");
                same(Told.of(x), before);
            }
            OhmBridge x = new OhmBridge();
            due(x.count(6), 0);
            for (int value = 1; value <= 4; value++) {
                x.set(4, value);
                due(x.count(6), value);
            }
            x.set(4, 5);
            due(x.count(6), 4);
            for (int left = 3; left >= 0; left--) {
                due(x.undo(), left);
                due(x.count(24), left + 1);
            }
            // the first state of all, a limit of 500, is dropped
            due(x.undo(), NOT_POSSIBLE);
            due(x.count(24), 1);
        });
        sentence("everything before it but the text", () -> {
            OhmBridge x = new OhmBridge();
            x.type('a');
            x.set(4, 1);
            x.type('b');
            x.undo();
            due(x.count(7), 2);
            x.set(4, 1);
            x.clearText();
            x.undo();
            due(x.count(7), 0);
            // nor are the states in the history part of a state
            x.set(4, 1);
            x.set(4, 2);
            x.undo();
            due(x.count(6), 1);
        });
        sentence("If several errors apply to a call, INVALID_ARGUMENT is returned rather than NOT_POSSIBLE, NOT_POSSIBLE rather than"
                + " LIMIT_REACHED, and LIMIT_REACHED rather than NOT_FOUND.", TermsEdgesTest::severalErrors);
        sentence("A call that returns an error changes nothing.", TermsEdgesTest::errorsChangeNothing);
        sentence("If there is no table or sensor with a certain number, or a sensor has no such wire, this is INVALID_ARGUMENT.", () -> {
            tableNumbers((x, table) -> x.nodeAt(table, 0, 0));
            sensorNumbers((x, sensor) -> x.diagnosis(sensor));
            for (int wires = 2; wires <= 4; wires++) {
                int many = wires;
                due(withSensor(many).lead(0, many - 1, 1), 0);
                invalid(() -> withSensor(many), (x, wire) -> x.lead(0, wire, 1), -1, many, 4, 32);
                due(withSensor(many).cut(0, many - 1, 1), 1);
                invalid(() -> withSensor(many), (x, wire) -> x.cut(0, wire, 1), -1, many, 4, 32);
            }
        });
        sentence("`INVALID_ARGUMENT = -2000000001`: An argument is out of its range, or there is no such table, sensor or wire.", () ->
                due(OhmBridge.INVALID_ARGUMENT, -2000000001));
        sentence("`NOT_POSSIBLE = -2000000002`: The call is not possible in the present state.", () ->
                due(OhmBridge.NOT_POSSIBLE, -2000000002));
        sentence("`LIMIT_REACHED = -2000000003`: A fixed limit has been reached.", () ->
                due(OhmBridge.LIMIT_REACHED, -2000000003));
        sentence("`NOT_FOUND = -2000000004`: There is no such value.", () ->
                due(OhmBridge.NOT_FOUND, -2000000004));
    }

    private static void severalErrors() {
        // a full table of which there is a sensor: all three errors, then two, then one
        refused(Edges::full, x -> x.node(0, 850001, 5), INVALID);
        refused(Edges::full, x -> x.node(0, 1200, 1012000), NOT_POSSIBLE);
        refused(() -> fullTable(), x -> x.node(0, 12, 0), INVALID);
        refused(() -> fullTable(), x -> x.node(0, 11, 13), NOT_POSSIBLE);
        refused(() -> fullTable(), x -> x.node(0, 12, 12), NOT_POSSIBLE);
        refused(() -> fullTable(), x -> x.node(0, 12, 13), LIMIT);
        refused(() -> sixSensors(), x -> x.sensor(1, 5, 1000), INVALID);
        refused(() -> sixSensors(), x -> x.sensor(1, 4, 1000), NOT_POSSIBLE);
        refused(() -> sixSensors(), x -> x.sensor(0, 5, 1000), INVALID);
        refused(() -> sixSensors(), x -> x.sensor(0, 4, 1000), LIMIT);
        refused(Edges::busy, x -> x.sensor(1, 1, 1000), INVALID);
        refused(Edges::busy, x -> x.plug(0, 3, 3), INVALID);
        refused(Edges::busy, x -> x.bath(0, 850001), INVALID);
        refused(Edges::busy, x -> x.cut(1, 1, 2), INVALID);
        refused(() -> faulty(1), x -> x.calibrate(0, 850001), INVALID);
        refused(Edges::full, x -> x.type(127), INVALID);
        refused(Edges::busy, x -> x.nodeAt(0, 3, 2), INVALID);
        refused(Edges::busy, x -> x.counts(1, 99, 1, 0), INVALID);
        refused(Edges::busy, x -> x.counts(1, 100, 1, 3), INVALID);
        refused(OhmBridge::new, x -> x.fault(2), INVALID);
        refused(OhmBridge::new, x -> x.readingAt(0, 0), INVALID);
    }

    private static OhmBridge fullTable() {
        OhmBridge x = withTable();
        for (int node = 0; node < 12; node++) {
            x.node(0, node, 1 + node);
        }
        return x;
    }

    private static OhmBridge sixSensors() {
        OhmBridge x = unplugged();
        x.table();
        x.node(1, 0, 1);
        return x;
    }

    /** Each of the errors that a change may return, with few states and with the most. */
    private static void errorsChangeNothing() {
        refused(Edges::full, x -> x.table(), LIMIT);
        refused(Edges::busy, x -> x.node(0, 100001, 2000001), NOT_POSSIBLE);
        refused(Edges::busy, x -> x.node(1, 300, 5001), NOT_POSSIBLE);
        refused(Edges::busy, x -> x.node(2, 300, 5001), INVALID);
        refused(Edges::busy, x -> x.sensor(1, 2, 1000), NOT_POSSIBLE);
        refused(Edges::full, x -> x.sensor(0, 2, 1000), LIMIT);
        refused(Edges::busy, x -> x.plug(0, 1, 0), NOT_POSSIBLE);
        refused(Edges::busy, x -> x.plug(1, 1, 0), NOT_POSSIBLE);
        refused(Edges::busy, x -> x.unplug(1), NOT_POSSIBLE);
        refused(Edges::busy, x -> x.bath(0, 100001), NOT_POSSIBLE);
        refused(Edges::busy, x -> x.lead(0, 3, 1), INVALID);
        refused(Edges::busy, x -> x.strain(0, 2, 2), INVALID);
        refused(Edges::busy, x -> x.cut(1, 1, 1), NOT_POSSIBLE);
        refused(Edges::busy, x -> x.cut(1, 0, 0), NOT_POSSIBLE);
        refused(Edges::busy, x -> x.drift(0, 100001), INVALID);
        refused(() -> withSmallSensor(), x -> x.drift(0, -1), NOT_POSSIBLE);
        refused(Edges::busy, x -> x.calibrate(1, 0), NOT_POSSIBLE);
        refused(Edges::busy, x -> x.calibrate(0, -50001), NOT_POSSIBLE);
        refused(Edges::busy, x -> x.limits(0, 1, 0, 0), INVALID);
        refused(Edges::busy, x -> x.set(0, 9999), INVALID);
        refused(Edges::busy, x -> x.read(1), NOT_POSSIBLE);
        refused(() -> withSmallSensor(), x -> x.scan(), NOT_POSSIBLE);
        refused(OhmBridge::new, x -> x.undo(), NOT_POSSIBLE);
        refused(Edges::busy, x -> x.play(), NOT_POSSIBLE);
        refused(() -> typed("t0,9;b0,0;r0;"), x -> x.play(), NOT_POSSIBLE);
        refused(() -> typed("s;s;r0;t0,8;m0,0;"), x -> x.play(), NOT_POSSIBLE);
        refused(Edges::full, x -> x.type(32), LIMIT);
        refused(Edges::busy, x -> x.type(31), INVALID);
    }

    private static OhmBridge withSmallSensor() {
        OhmBridge x = Due.evenTable();
        x.sensor(0, 2, 1000);
        return x;
    }
}
