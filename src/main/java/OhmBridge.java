/** A bridge for resistance thermometers. README.md tells how it is used and built. */
public final class OhmBridge {
    public static final int INVALID_ARGUMENT = -2000000001;
    public static final int NOT_POSSIBLE = -2000000002;
    public static final int LIMIT_REACHED = -2000000003;
    public static final int NOT_FOUND = -2000000004;

    private static final int MOST_TABLES = 3;
    private static final int MOST_NODES = 12;
    private static final int LEAST_NODES = 2;
    private static final int MOST_SENSORS = 6;
    private static final int LEAST_WIRES = 2;
    private static final int MOST_WIRES = 4;
    private static final int CARDS = 4;
    private static final int SLOTS = 3;
    private static final int CARD_FOR_ALL = 3;
    private static final int KEPT_READINGS = 9;
    private static final int KEPT_STATES = 4;
    private static final int MOST_CHARACTERS = 60;
    private static final int MOST_DIGITS = 6;
    private static final int NOWHERE = -1;

    private static final int LEAST_TEMPERATURE = -200000;
    private static final int GREATEST_TEMPERATURE = 850000;
    private static final int GREATEST_RATIO = 10000000;
    private static final int LEAST_BASE = 1000;
    private static final int GREATEST_BASE = 2000000;
    private static final int GREATEST_LEAD = 50000;
    private static final int GREATEST_DRIFT = 100000;
    private static final int GREATEST_HYSTERESIS = 100000;
    private static final int LEAST_CURRENT = 100;
    private static final int GREATEST_CURRENT = 5000;
    private static final long MILLION = 1000000;
    private static final long GREATEST_OHMS = 2000000000;

    private static final int REFERENCE = 0;
    private static final int CURRENT = 1;
    private static final int SECOND_CURRENT = 2;
    private static final int BITS = 3;
    private static final int UNLIKE_LEADS = 4;
    private static final int STRAY_LIMIT = 5;
    private static final int MEDIAN_OF = 6;
    private static final int SETTINGS = 7;
    private static final int[] LEAST_SETTING = {10000, 100, 100, 8, 0, 0, 1};
    private static final int[] GREATEST_SETTING = {1000000, 5000, 5000, 24, 50000, 100000, 9};
    private static final int[] FIRST_SETTING = {100000, 1000, 1414, 20, 500, 5000, 3};

    private static final int HEATING = 0;
    private static final int STRAY = 1;
    private static final int SHORTED = 2;
    private static final int STRAINS = 3;
    private static final int[] LEAST_STRAIN = {0, -100000, 0};
    private static final int[] GREATEST_STRAIN = {5000, 100000, 1};

    private static final int SOUND = 0;
    private static final int UNPLUGGED = 1;
    private static final int BROKEN = 2;
    private static final int SHORT = 3;
    private static final int TOO_GREAT = 4;
    private static final int LEADS_UNLIKE = 5;
    private static final int STRAYING = 6;
    private static final int NO_INVERSE = 7;

    private static final int NO_FAULT = 0;
    private static final int NO_ORDER = 1;
    private static final int NO_SUCH_PART = 2;
    private static final int NOT_DONE = 3;

    private final State now = new State();
    private final State trial = new State();
    private final History history = new History();
    private final Meter meter = new Meter();
    private final Measurement probe = new Measurement();
    private final Text text = new Text();
    private final int[] sorted = new int[KEPT_READINGS];
    private int faultPlace;
    private int faultReason;
    private int ordersDone;

    public OhmBridge() {
    }

    // ---- tables

    public int table() {
        if (now.tableCount >= MOST_TABLES) {
            return LIMIT_REACHED;
        }
        history.record(now);
        now.tableCount++;
        return now.tableCount - 1;
    }

    public int node(int table, int temperature, int ratio) {
        Table changed = now.tableAt(table);
        if (changed == null || !isTemperature(temperature) || !isWithin(ratio, 1, GREATEST_RATIO)) {
            return INVALID_ARGUMENT;
        }
        if (now.hasSensorOf(table) || !changed.mayGoOn(temperature, ratio)) {
            return NOT_POSSIBLE;
        }
        if (changed.nodes >= MOST_NODES) {
            return LIMIT_REACHED;
        }
        history.record(now);
        changed.append(temperature, ratio);
        return changed.nodes;
    }

    public int nodeAt(int table, int index, int what) {
        Table asked = now.tableAt(table);
        if (asked == null || index < 0 || !isWithin(what, 0, 1)) {
            return INVALID_ARGUMENT;
        }
        if (index >= asked.nodes) {
            return NOT_FOUND;
        }
        return what == 0 ? asked.temperatureOf(index) : asked.ratioOf(index);
    }

    public int ratio(int table, int temperature) {
        Table asked = now.tableAt(table);
        if (asked == null || !isTemperature(temperature)) {
            return INVALID_ARGUMENT;
        }
        return asked.goesTo(temperature) ? asked.ratioAt(temperature) : NOT_FOUND;
    }

    public int inverse(int table, int ratio) {
        Table asked = now.tableAt(table);
        if (asked == null || !isWithin(ratio, 1, GREATEST_RATIO)) {
            return INVALID_ARGUMENT;
        }
        return asked.temperatureFor(ratio);
    }

    // ---- sensors

    public int sensor(int table, int wires, int base) {
        Table used = now.tableAt(table);
        if (used == null || !isWithin(wires, LEAST_WIRES, MOST_WIRES) || !isBase(base)) {
            return INVALID_ARGUMENT;
        }
        if (used.nodes < LEAST_NODES) {
            return NOT_POSSIBLE;
        }
        if (now.sensorCount >= MOST_SENSORS) {
            return LIMIT_REACHED;
        }
        history.record(now);
        now.sensorCount++;
        Sensor added = now.sensorAt(now.sensorCount - 1);
        if (added != null) {
            added.begin(table, wires, base, used.nearest(0));
        }
        return now.sensorCount - 1;
    }

    public int plug(int sensor, int card, int slot) {
        Sensor plugged = now.sensorAt(sensor);
        if (plugged == null || !isSlot(card, slot)) {
            return INVALID_ARGUMENT;
        }
        int place = card * SLOTS + slot;
        if (plugged.isPlugged() || now.sensorIn(place) != NOWHERE || !plugged.fits(card)) {
            return NOT_POSSIBLE;
        }
        history.record(now);
        plugged.place = place;
        return now.takenSlots(card);
    }

    public int unplug(int sensor) {
        Sensor plugged = now.sensorAt(sensor);
        if (plugged == null) {
            return INVALID_ARGUMENT;
        }
        if (!plugged.isPlugged()) {
            return NOT_POSSIBLE;
        }
        history.record(now);
        int place = plugged.place;
        plugged.place = NOWHERE;
        return toldPlace(place);
    }

    public int slotAt(int card, int slot) {
        if (!isSlot(card, slot)) {
            return INVALID_ARGUMENT;
        }
        int found = now.sensorIn(card * SLOTS + slot);
        return found == NOWHERE ? NOT_FOUND : found;
    }

    public int bath(int sensor, int temperature) {
        Sensor bathed = now.sensorAt(sensor);
        if (bathed == null || !isTemperature(temperature)) {
            return INVALID_ARGUMENT;
        }
        if (!now.canBring(bathed, temperature)) {
            return NOT_POSSIBLE;
        }
        history.record(now);
        int before = bathed.temperature;
        bathed.temperature = temperature;
        return before;
    }

    public int lead(int sensor, int wire, int lead) {
        Sensor changed = now.sensorAt(sensor);
        if (changed == null || !changed.hasWire(wire) || !isWithin(lead, 0, GREATEST_LEAD)) {
            return INVALID_ARGUMENT;
        }
        history.record(now);
        int before = changed.leadOf(wire);
        changed.setLead(wire, lead);
        return before;
    }

    public int strain(int sensor, int what, int value) {
        Sensor changed = now.sensorAt(sensor);
        if (changed == null || !isInRow(value, what, LEAST_STRAIN, GREATEST_STRAIN)) {
            return INVALID_ARGUMENT;
        }
        history.record(now);
        int before = changed.strainOf(what);
        changed.setStrain(what, value);
        return before;
    }

    public int cut(int sensor, int wire, int broken) {
        Sensor changed = now.sensorAt(sensor);
        if (changed == null || !changed.hasWire(wire) || !isWithin(broken, 0, 1)) {
            return INVALID_ARGUMENT;
        }
        if (changed.isBroken(wire) == (broken == 1)) {
            return NOT_POSSIBLE;
        }
        history.record(now);
        changed.turnWire(wire);
        return Integer.bitCount(changed.brokenWires);
    }

    public int drift(int sensor, int millionths) {
        Sensor changed = now.sensorAt(sensor);
        if (changed == null || !isWithin(millionths, -GREATEST_DRIFT, GREATEST_DRIFT)) {
            return INVALID_ARGUMENT;
        }
        long base = changed.trueBase * (MILLION + millionths) / MILLION;
        if (!isBase(base)) {
            return NOT_POSSIBLE;
        }
        history.record(now);
        changed.trueBase = (int) base;
        return changed.trueBase;
    }

    public int calibrate(int sensor, int temperature) {
        Sensor changed = now.sensorAt(sensor);
        if (changed == null || !isTemperature(temperature)) {
            return INVALID_ARGUMENT;
        }
        meter.measure(now, changed);
        boolean unfit = isWithin(meter.diagnosed, UNPLUGGED, TOO_GREAT);
        if (unfit || !now.canBring(changed, temperature)) {
            return NOT_POSSIBLE;
        }
        long base = now.baseFor(changed, meter.withoutPower, temperature);
        if (!isBase(base)) {
            return NOT_POSSIBLE;
        }
        history.record(now);
        changed.assumedBase = (int) base;
        return changed.assumedBase;
    }

    public int limits(int sensor, int low, int high, int hysteresis) {
        Sensor changed = now.sensorAt(sensor);
        if (changed == null || !isTemperature(low) || !isWithin(high, low, GREATEST_TEMPERATURE)
                || !isWithin(hysteresis, 0, GREATEST_HYSTERESIS)) {
            return INVALID_ARGUMENT;
        }
        history.record(now);
        int before = changed.alarm;
        changed.watch(low, high, hysteresis);
        return before;
    }

    public int sensorOf(int sensor, int what) {
        Sensor asked = now.sensorAt(sensor);
        if (asked == null || !isWithin(what, 0, 18)) {
            return INVALID_ARGUMENT;
        }
        if (isWithin(what, 5, 8)) {
            return asked.hasWire(what - 5) ? asked.leadOf(what - 5) : NOT_FOUND;
        }
        if (isWithin(what, 9, 11)) {
            return asked.strainOf(what - 9);
        }
        switch (what) {
            case 0:
                return asked.table;
            case 1:
                return asked.wires;
            case 2:
                return asked.trueBase;
            case 3:
                return asked.assumedBase;
            case 4:
                return asked.temperature;
            case 12:
                return asked.brokenWires;
            case 13:
                return asked.isPlugged() ? toldPlace(asked.place) : NOT_FOUND;
            case 14:
                return asked.low;
            case 15:
                return asked.high;
            case 16:
                return asked.hysteresis;
            case 17:
                return asked.alarm;
            default:
                return asked.readings;
        }
    }

    // ---- measuring

    public int set(int what, int value) {
        if (!isInRow(value, what, LEAST_SETTING, GREATEST_SETTING)) {
            return INVALID_ARGUMENT;
        }
        history.record(now);
        int before = now.setting(what);
        now.changeSetting(what, value);
        return before;
    }

    public int counts(int sensor, int current, int loop, int way) {
        Sensor asked = now.sensorAt(sensor);
        if (asked == null || !isWithin(current, LEAST_CURRENT, GREATEST_CURRENT)
                || !isWithin(loop, 0, 1) || !isWithin(way, 0, 2)) {
            return INVALID_ARGUMENT;
        }
        if (loop == 1 && !asked.isCompensated()) {
            return NOT_FOUND;
        }
        probe.take(now, asked, current);
        long oneWay = loop == 0 ? probe.oneWay : probe.secondOneWay;
        long otherWay = loop == 0 ? probe.otherWay : probe.secondOtherWay;
        if (way == 2) {
            return (int) ((oneWay - otherWay) / 2);
        }
        return (int) (way == 0 ? oneWay : otherWay);
    }

    public int ohms(int sensor, int what) {
        Sensor asked = now.sensorAt(sensor);
        if (asked == null || !isWithin(what, 0, 5)) {
            return INVALID_ARGUMENT;
        }
        meter.measure(now, asked);
        switch (what) {
            case 0:
                return (int) meter.first.heated;
            case 1:
                return (int) meter.first.ohmsBy(meter.first.oneWay);
            case 2:
                return (int) meter.first.loopOhms;
            case 3:
                return (int) meter.first.compensated;
            case 4:
                return (int) meter.second.compensated;
            default:
                return (int) meter.withoutPower;
        }
    }

    public int diagnosis(int sensor) {
        Sensor asked = now.sensorAt(sensor);
        if (asked == null) {
            return INVALID_ARGUMENT;
        }
        meter.measure(now, asked);
        return meter.diagnosed;
    }

    public int read(int sensor) {
        Sensor asked = now.sensorAt(sensor);
        if (asked == null) {
            return INVALID_ARGUMENT;
        }
        meter.measure(now, asked);
        if (meter.diagnosed != SOUND) {
            return NOT_POSSIBLE;
        }
        history.record(now);
        asked.log(meter.reading);
        return meter.reading;
    }

    public int scan() {
        int number = now.nextPlugged();
        Sensor next = now.sensorAt(number);
        if (next == null) {
            return NOT_POSSIBLE;
        }
        history.record(now);
        now.scanner = next.place;
        meter.measure(now, next);
        if (meter.diagnosed != SOUND) {
            return -1 - number;
        }
        next.log(meter.reading);
        return number;
    }

    // ---- logs

    public int readingAt(int sensor, int index) {
        Sensor asked = now.sensorAt(sensor);
        if (asked == null || index < 0) {
            return INVALID_ARGUMENT;
        }
        return index < asked.keptReadings() ? asked.reading(index) : NOT_FOUND;
    }

    public int median(int sensor) {
        Sensor asked = now.sensorAt(sensor);
        if (asked == null) {
            return INVALID_ARGUMENT;
        }
        int taken = Math.min(now.setting(MEDIAN_OF), asked.keptReadings());
        if (taken == 0) {
            return NOT_FOUND;
        }
        for (int index = 0; index < taken && index < sorted.length; index++) {
            insertSorted(asked.reading(index), index);
        }
        int middle = (taken - 1) / 2;
        return middle >= 0 && middle < sorted.length ? sorted[middle] : NOT_FOUND;
    }

    public int meanBits(int sensor) {
        Sensor asked = now.sensorAt(sensor);
        if (asked == null) {
            return INVALID_ARGUMENT;
        }
        int kept = asked.keptReadings();
        if (kept == 0) {
            return NOT_FOUND;
        }
        long sum = 0;
        for (int index = 0; index < kept; index++) {
            sum += asked.reading(index);
        }
        return bitsOf((float) ((double) sum / (double) kept / 1000.0));
    }

    public int count(int what) {
        if (isWithin(what, 20, 26)) {
            return now.setting(what - 20);
        }
        if (isWithin(what, 10, 12)) {
            Table asked = now.tableAt(what - 10);
            return asked == null ? NOT_FOUND : asked.nodes;
        }
        switch (what) {
            case 0:
                return now.tableCount;
            case 1:
                return now.sensorCount;
            case 2:
                return now.pluggedSensors();
            case 3:
                return now.alarmsOn();
            case 4:
                return now.allReadings();
            case 5:
                return now.scanner == NOWHERE ? NOT_FOUND : toldPlace(now.scanner);
            case 6:
                return history.size;
            case 7:
                return text.length;
            default:
                return INVALID_ARGUMENT;
        }
    }

    public int undo() {
        if (history.size == 0) {
            return NOT_POSSIBLE;
        }
        history.restore(now);
        return history.size;
    }

    // ---- texts

    public int type(int character) {
        if (!isWithin(character, 32, 126)) {
            return INVALID_ARGUMENT;
        }
        if (text.length >= MOST_CHARACTERS) {
            return LIMIT_REACHED;
        }
        text.append((char) character);
        return text.length;
    }

    public int clearText() {
        int before = text.length;
        text.length = 0;
        return before;
    }

    public int fault(int what) {
        if (!isWithin(what, 0, 1)) {
            return INVALID_ARGUMENT;
        }
        tryOrders();
        if (faultReason == NO_FAULT) {
            return NOT_FOUND;
        }
        return what == 0 ? faultPlace : faultReason;
    }

    public int play() {
        tryOrders();
        if (faultReason != NO_FAULT) {
            return NOT_POSSIBLE;
        }
        history.record(now);
        now.copy(trial);
        return ordersDone;
    }

    /** Does the orders on the trial state, so that a fault leaves the present one as it was. */
    private void tryOrders() {
        trial.copy(now);
        faultReason = NO_FAULT;
        faultPlace = 0;
        ordersDone = 0;
        for (int turn = 0; turn < MOST_CHARACTERS && faultPlace < text.length; turn++) {
            faultReason = text.parse(faultPlace) ? obey() : NO_ORDER;
            if (faultReason != NO_FAULT) {
                return;
            }
            ordersDone++;
            faultPlace = text.next;
        }
    }

    /** Does the order that was parsed last on the trial state and answers why it could not. */
    private int obey() {
        boolean scanning = text.order == 's';
        Sensor meant = trial.sensorAt(scanning ? trial.nextPlugged() : text.sensor);
        if (meant == null) {
            return scanning ? NOT_DONE : NO_SUCH_PART;
        }
        if (text.order == 't') {
            return obeyBath(meant);
        }
        if (text.order == 'b' || text.order == 'm') {
            return obeyCut(meant);
        }
        if (scanning) {
            trial.scanner = meant.place;
        }
        meter.measure(trial, meant);
        if (meter.diagnosed == SOUND) {
            meant.log(meter.reading);
            return NO_FAULT;
        }
        return scanning ? NO_FAULT : NOT_DONE;
    }

    private int obeyBath(Sensor meant) {
        if (!trial.canBring(meant, text.number)) {
            return NOT_DONE;
        }
        meant.temperature = text.number;
        return NO_FAULT;
    }

    private int obeyCut(Sensor meant) {
        if (!meant.hasWire(text.number)) {
            return NO_SUCH_PART;
        }
        if (meant.isBroken(text.number) == (text.order == 'b')) {
            return NOT_DONE;
        }
        meant.turnWire(text.number);
        return NO_FAULT;
    }

    /** Puts a value among the first ones of the sorted row, so many as there are. */
    private void insertSorted(int value, int sortedAhead) {
        int at = sortedAhead;
        while (at > 0 && at < sorted.length && sorted[at - 1] > value) {
            sorted[at] = sorted[at - 1];
            at--;
        }
        if (at >= 0 && at < sorted.length) {
            sorted[at] = value;
        }
    }

    /** Takes the bits together by hand, as the language leaves out the library's call for it. */
    private static int bitsOf(float value) {
        if (value == 0) {
            return 0;
        }
        float size = value < 0 ? -value : value;
        int exponent = 127;
        for (int step = 0; step < 150 && size >= 2; step++) {
            size = size / 2;
            exponent++;
        }
        for (int step = 0; step < 150 && size < 1; step++) {
            size = size * 2;
            exponent--;
        }
        int fraction = (int) ((size - 1) * 8388608);
        int sign = value < 0 ? 1 << 31 : 0;
        return sign | exponent << 23 | fraction;
    }

    private static boolean isWithin(long value, long least, long greatest) {
        return value >= least && value <= greatest;
    }

    private static boolean isTemperature(int temperature) {
        return isWithin(temperature, LEAST_TEMPERATURE, GREATEST_TEMPERATURE);
    }

    private static boolean isBase(long base) {
        return isWithin(base, LEAST_BASE, GREATEST_BASE);
    }

    private static boolean isSlot(int card, int slot) {
        return isWithin(card, 0, CARDS - 1) && isWithin(slot, 0, SLOTS - 1);
    }

    /** Whether there is such a row of bounds, and the value keeps to it. */
    private static boolean isInRow(int value, int row, int[] least, int[] greatest) {
        return row >= 0 && row < least.length && row < greatest.length
                && value >= least[row] && value <= greatest[row];
    }

    private static int toldPlace(int place) {
        return place / SLOTS * 10 + place % SLOTS;
    }

    /** Ratios by temperature. */
    private static final class Table {
        int nodes;
        private final int[] temperatures = new int[MOST_NODES];
        private final int[] ratios = new int[MOST_NODES];

        void copy(Table other) {
            nodes = other.nodes;
            System.arraycopy(other.temperatures, 0, temperatures, 0, MOST_NODES);
            System.arraycopy(other.ratios, 0, ratios, 0, MOST_NODES);
        }

        int temperatureOf(int node) {
            return node >= 0 && node < temperatures.length ? temperatures[node] : 0;
        }

        int ratioOf(int node) {
            return node >= 0 && node < ratios.length ? ratios[node] : 0;
        }

        boolean mayGoOn(int temperature, int ratio) {
            return nodes == 0
                    || temperature > temperatureOf(nodes - 1) && ratio > ratioOf(nodes - 1);
        }

        void append(int temperature, int ratio) {
            if (nodes >= 0 && nodes < temperatures.length && nodes < ratios.length) {
                temperatures[nodes] = temperature;
                ratios[nodes] = ratio;
                nodes++;
            }
        }

        boolean goesTo(int temperature) {
            return nodes >= LEAST_NODES
                    && temperature >= temperatureOf(0) && temperature <= temperatureOf(nodes - 1);
        }

        int nearest(int temperature) {
            return Math.min(Math.max(temperature, temperatureOf(0)), temperatureOf(nodes - 1));
        }

        /** The ratio at a temperature to which the table goes. */
        int ratioAt(int temperature) {
            for (int upper = 1; upper < nodes && upper < MOST_NODES; upper++) {
                long width = (long) temperatures[upper] - temperatures[upper - 1];
                if (temperatures[upper] >= temperature && width > 0) {
                    long behind = (long) temperature - temperatures[upper - 1];
                    long rise = (long) ratios[upper] - ratios[upper - 1];
                    return (int) (ratios[upper - 1] + rise * behind / width);
                }
            }
            return 0;
        }

        /** The least temperature with at least this ratio, or NOT_FOUND. */
        int temperatureFor(long ratio) {
            if (nodes < LEAST_NODES || ratio < ratioOf(0) || ratio > ratioOf(nodes - 1)) {
                return NOT_FOUND;
            }
            int low = temperatureOf(0);
            int high = temperatureOf(nodes - 1);
            // 32 halvings leave nothing of any range of temperatures
            for (int halving = 0; halving < 32 && low < high; halving++) {
                int middle = low + (high - low) / 2;
                if (ratioAt(middle) >= ratio) {
                    high = middle;
                } else {
                    low = middle + 1;
                }
            }
            return high;
        }
    }

    /** A thermometer, with its leads, its place and what was read of it. */
    private static final class Sensor {
        int table;
        int wires;
        int trueBase;
        int assumedBase;
        int temperature;
        int brokenWires;
        int place = NOWHERE;
        int low;
        int high;
        int hysteresis;
        int alarm;
        int readings;
        private final int[] leads = new int[MOST_WIRES];
        private final int[] strains = new int[STRAINS];
        private final int[] latest = new int[KEPT_READINGS];

        /** The rest is as it was made: an undo brings back even the rows that are not used yet. */
        void begin(int ofTable, int withWires, int base, int atTemperature) {
            table = ofTable;
            wires = withWires;
            trueBase = base;
            assumedBase = base;
            temperature = atTemperature;
            watch(LEAST_TEMPERATURE, GREATEST_TEMPERATURE, 0);
        }

        void copy(Sensor other) {
            table = other.table;
            wires = other.wires;
            trueBase = other.trueBase;
            assumedBase = other.assumedBase;
            temperature = other.temperature;
            brokenWires = other.brokenWires;
            place = other.place;
            low = other.low;
            high = other.high;
            hysteresis = other.hysteresis;
            alarm = other.alarm;
            readings = other.readings;
            System.arraycopy(other.leads, 0, leads, 0, MOST_WIRES);
            System.arraycopy(other.strains, 0, strains, 0, STRAINS);
            System.arraycopy(other.latest, 0, latest, 0, KEPT_READINGS);
        }

        boolean isPlugged() {
            return place != NOWHERE;
        }

        boolean fits(int card) {
            return card == CARD_FOR_ALL || wires == LEAST_WIRES + card;
        }

        boolean isCompensated() {
            return wires == 3;
        }

        boolean hasWire(int wire) {
            return wire >= 0 && wire < wires;
        }

        int leadOf(int wire) {
            return wire >= 0 && wire < leads.length ? leads[wire] : 0;
        }

        void setLead(int wire, int lead) {
            if (wire >= 0 && wire < leads.length) {
                leads[wire] = lead;
            }
        }

        int strainOf(int what) {
            return what >= 0 && what < strains.length ? strains[what] : 0;
        }

        void setStrain(int what, int value) {
            if (what >= 0 && what < strains.length) {
                strains[what] = value;
            }
        }

        boolean isBroken(int wire) {
            return (brokenWires >> wire & 1) == 1;
        }

        void turnWire(int wire) {
            brokenWires ^= 1 << wire;
        }

        void watch(int lowLimit, int highLimit, int slack) {
            low = lowLimit;
            high = highLimit;
            hysteresis = slack;
            alarm = 0;
        }

        int keptReadings() {
            return Math.min(readings, KEPT_READINGS);
        }

        /** A kept reading, 0 for the latest. */
        int reading(int index) {
            return index >= 0 && index < latest.length ? latest[index] : 0;
        }

        void log(int reading) {
            for (int index = KEPT_READINGS - 1; index > 0; index--) {
                latest[index] = latest[index - 1];
            }
            latest[0] = reading;
            readings++;
            if (alarm == 0 && (reading < low || reading > high)) {
                alarm = 1;
            } else if (alarm == 1 && reading >= low + hysteresis && reading <= high - hysteresis) {
                alarm = 0;
            }
        }
    }

    /** All that a change may alter and the history keeps. */
    private static final class State {
        int tableCount;
        int sensorCount;
        int scanner = NOWHERE;
        private final Table[] tables = new Table[MOST_TABLES];
        private final Sensor[] sensors = new Sensor[MOST_SENSORS];
        private final int[] settings = new int[SETTINGS];

        State() {
            for (int number = 0; number < MOST_TABLES; number++) {
                tables[number] = new Table();
            }
            for (int number = 0; number < MOST_SENSORS; number++) {
                sensors[number] = new Sensor();
            }
            System.arraycopy(FIRST_SETTING, 0, settings, 0, SETTINGS);
        }

        void copy(State other) {
            tableCount = other.tableCount;
            sensorCount = other.sensorCount;
            scanner = other.scanner;
            for (int number = 0; number < MOST_TABLES; number++) {
                tables[number].copy(other.tables[number]);
            }
            for (int number = 0; number < MOST_SENSORS; number++) {
                sensors[number].copy(other.sensors[number]);
            }
            System.arraycopy(other.settings, 0, settings, 0, SETTINGS);
        }

        Table tableAt(int number) {
            boolean there = number >= 0 && number < tableCount && number < tables.length;
            return there ? tables[number] : null;
        }

        Sensor sensorAt(int number) {
            boolean there = number >= 0 && number < sensorCount && number < sensors.length;
            return there ? sensors[number] : null;
        }

        int setting(int what) {
            return what >= 0 && what < settings.length ? settings[what] : 0;
        }

        void changeSetting(int what, int value) {
            if (what >= 0 && what < settings.length) {
                settings[what] = value;
            }
        }

        boolean hasSensorOf(int table) {
            for (int number = 0; number < sensorCount && number < sensors.length; number++) {
                if (sensors[number].table == table) {
                    return true;
                }
            }
            return false;
        }

        int sensorIn(int place) {
            for (int number = 0; number < sensorCount && number < sensors.length; number++) {
                if (sensors[number].place == place) {
                    return number;
                }
            }
            return NOWHERE;
        }

        int takenSlots(int card) {
            int taken = 0;
            for (int slot = 0; slot < SLOTS; slot++) {
                if (sensorIn(card * SLOTS + slot) != NOWHERE) {
                    taken++;
                }
            }
            return taken;
        }

        int pluggedSensors() {
            int plugged = 0;
            for (int card = 0; card < CARDS; card++) {
                plugged += takenSlots(card);
            }
            return plugged;
        }

        int alarmsOn() {
            int on = 0;
            for (int number = 0; number < sensorCount && number < sensors.length; number++) {
                on += sensors[number].alarm;
            }
            return on;
        }

        int allReadings() {
            int sum = 0;
            for (int number = 0; number < sensorCount && number < sensors.length; number++) {
                sum += sensors[number].readings;
            }
            return sum;
        }

        /** The sensor to which the scanner goes next, its own place the last one. */
        int nextPlugged() {
            for (int step = 1; step <= CARDS * SLOTS; step++) {
                int found = sensorIn((scanner + step) % (CARDS * SLOTS));
                if (found != NOWHERE) {
                    return found;
                }
            }
            return NOWHERE;
        }

        boolean canBring(Sensor sensor, int temperature) {
            Table used = tableAt(sensor.table);
            return used != null && used.goesTo(temperature);
        }

        /** The base by which a resistance has the ratio of a temperature, 0 if there is none. */
        long baseFor(Sensor sensor, long ohms, int temperature) {
            Table used = tableAt(sensor.table);
            long ratio = used == null ? 0 : used.ratioAt(temperature);
            return ratio <= 0 ? 0 : ohms * MILLION / ratio;
        }
    }

    /** What one current measures of a sensor. */
    private static final class Measurement {
        long heated;
        long oneWay;
        long otherWay;
        long secondOneWay;
        long secondOtherWay;
        long loopOhms;
        long compensated;
        private long current;
        private long reference;
        private long unit;
        private long stray;

        void take(State state, Sensor sensor, int byCurrent) {
            current = byCurrent;
            reference = state.setting(REFERENCE);
            unit = 1L << state.setting(BITS);
            stray = sensor.strainOf(STRAY);
            heated = heatedOhms(sensor, state.tableAt(sensor.table));
            long leads = sensor.wires == MOST_WIRES ? 0 : sensor.leadOf(0) + sensor.leadOf(1);
            long voltage = current * (heated + leads);
            oneWay = countsOf(voltage + stray);
            otherWay = countsOf(-voltage + stray);
            long secondVoltage = current * (sensor.leadOf(1) + sensor.leadOf(2));
            secondOneWay = countsOf(secondVoltage + stray);
            secondOtherWay = countsOf(-secondVoltage + stray);
            loopOhms = ohmsBy((oneWay - otherWay) / 2);
            compensated = loopOhms;
            if (sensor.isCompensated()) {
                compensated -= ohmsBy((secondOneWay - secondOtherWay) / 2);
            }
        }

        private long heatedOhms(Sensor sensor, Table table) {
            if (table == null || sensor.strainOf(SHORTED) == 1) {
                return 0;
            }
            long cold = (long) sensor.trueBase * table.ratioAt(sensor.temperature) / MILLION;
            long warmth = current * current * cold / MILLION * sensor.strainOf(HEATING) / MILLION;
            long warm = Math.min(sensor.temperature + warmth, table.temperatureOf(table.nodes - 1));
            return (long) sensor.trueBase * table.ratioAt((int) warm) / MILLION;
        }

        private long greatest() {
            return 4 * unit;
        }

        private long countsOf(long voltage) {
            long scale = current * reference;
            if (scale <= 0) {
                return 0;
            }
            long counts = voltage * unit / scale;
            return Math.max(-greatest(), Math.min(greatest(), counts));
        }

        long ohmsBy(long counts) {
            return unit <= 0 ? 0 : counts * reference / unit;
        }

        boolean isAtBound() {
            return oneWay == greatest() || oneWay == -greatest()
                    || otherWay == greatest() || otherWay == -greatest();
        }
    }

    /** What both currents tell of a sensor. */
    private static final class Meter {
        final Measurement first = new Measurement();
        final Measurement second = new Measurement();
        long withoutPower;
        int reading;
        int diagnosed;

        void measure(State state, Sensor sensor) {
            long current = state.setting(CURRENT);
            long secondCurrent = state.setting(SECOND_CURRENT);
            first.take(state, sensor, state.setting(CURRENT));
            second.take(state, sensor, state.setting(SECOND_CURRENT));
            withoutPower = extrapolated(current, secondCurrent);
            reading = readingOf(state.tableAt(sensor.table), sensor.assumedBase);
            diagnosed = diagnosisOf(state, sensor);
        }

        private long extrapolated(long current, long secondCurrent) {
            long x = first.compensated;
            long y = second.compensated;
            long apart = secondCurrent * secondCurrent - current * current;
            if (apart == 0) {
                return x;
            }
            long ohms = x - (y - x) * current * current / apart;
            return Math.max(-GREATEST_OHMS, Math.min(GREATEST_OHMS, ohms));
        }

        private int readingOf(Table table, long assumedBase) {
            if (table == null || assumedBase <= 0) {
                return NOT_FOUND;
            }
            return table.temperatureFor(withoutPower * MILLION / assumedBase);
        }

        private int diagnosisOf(State state, Sensor sensor) {
            if (!sensor.isPlugged()) {
                return UNPLUGGED;
            }
            if (sensor.brokenWires != 0) {
                return BROKEN;
            }
            if (withoutPower < sensor.assumedBase / 10) {
                return SHORT;
            }
            if (first.isAtBound() || second.isAtBound()) {
                return TOO_GREAT;
            }
            int unlike = Math.abs(sensor.leadOf(0) - sensor.leadOf(1));
            if (sensor.isCompensated() && unlike > state.setting(UNLIKE_LEADS)) {
                return LEADS_UNLIKE;
            }
            if (Math.abs(sensor.strainOf(STRAY)) > state.setting(STRAY_LIMIT)) {
                return STRAYING;
            }
            return reading == NOT_FOUND ? NO_INVERSE : SOUND;
        }
    }

    /** The latest states, the oldest one first. */
    private static final class History {
        int size;
        private final State[] kept = new State[KEPT_STATES];

        History() {
            for (int place = 0; place < KEPT_STATES; place++) {
                kept[place] = new State();
            }
        }

        void record(State state) {
            if (size >= kept.length) {
                dropOldest();
            }
            if (size >= 0 && size < kept.length) {
                kept[size].copy(state);
                size++;
            }
        }

        void restore(State state) {
            if (size > 0 && size <= kept.length) {
                size--;
                state.copy(kept[size]);
            }
        }

        /** The dropped state's rows go to the end, to be written over by the next one. */
        private void dropOldest() {
            State oldest = kept[0];
            for (int place = 1; place < kept.length; place++) {
                kept[place - 1] = kept[place];
            }
            kept[kept.length - 1] = oldest;
            size = kept.length - 1;
        }
    }

    /** The typed text, and the order in it that was parsed last. */
    private static final class Text {
        int length;
        char order;
        int sensor;
        int number;
        int next;
        private final char[] characters = new char[MOST_CHARACTERS];

        void append(char character) {
            if (length >= 0 && length < characters.length) {
                characters[length] = character;
                length++;
            }
        }

        /** Whether an order of the right form starts here; what it says is kept. */
        boolean parse(int from) {
            order = characterAt(from);
            next = from + 1;
            if (order == 's') {
                return takes(';');
            }
            if (order != 't' && order != 'r' && order != 'b' && order != 'm') {
                return false;
            }
            sensor = parsedDigits();
            if (sensor < 0) {
                return false;
            }
            return order == 'r' ? takes(';') : parsesNumber() && takes(';');
        }

        private boolean parsesNumber() {
            if (!takes(',')) {
                return false;
            }
            boolean below = order == 't' && takes('-');
            int digits = parsedDigits();
            number = below ? -digits : digits;
            return digits >= 0;
        }

        /** A seventh digit is left where it stands: no order goes on with it. */
        private int parsedDigits() {
            int value = 0;
            int taken = 0;
            while (taken < MOST_DIGITS && characterAt(next) >= '0' && characterAt(next) <= '9') {
                value = value * 10 + (characterAt(next) - '0');
                next++;
                taken++;
            }
            return taken == 0 ? -1 : value;
        }

        private boolean takes(char character) {
            if (characterAt(next) != character) {
                return false;
            }
            next++;
            return true;
        }

        /** 0 behind the end, which no order holds. */
        private char characterAt(int place) {
            boolean there = place >= 0 && place < length && place < characters.length;
            return there ? characters[place] : (char) 0;
        }
    }
}
