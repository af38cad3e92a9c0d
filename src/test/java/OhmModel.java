import java.math.BigInteger;
import java.util.ArrayDeque;
import java.util.ArrayList;
import java.util.Collections;
import java.util.Deque;
import java.util.List;
import java.util.Map;
import java.util.TreeMap;
import java.util.regex.Matcher;
import java.util.regex.Pattern;

/** The document once more, written another way and with the library, to compare random runs with. */
public final class OhmModel {
    private static final int INVALID = Due.INVALID;
    private static final int IMPOSSIBLE = Due.NOT_POSSIBLE;
    private static final int LIMIT = Due.LIMIT;
    private static final int NONE = Due.NOT_FOUND;
    private static final int[][] SETTING_RANGES = {{10000, 1000000}, {100, 5000}, {100, 5000}, {8, 24}, {0, 50000},
        {0, 100000}, {1, 9}};
    private static final int[][] STRAIN_RANGES = {{0, 5000}, {-100000, 100000}, {0, 1}};
    private static final Pattern ORDER = Pattern.compile(
            "t([0-9]{1,6}),(-?[0-9]{1,6});|r([0-9]{1,6});|([bm])([0-9]{1,6}),([0-9]{1,6});|s;");

    private static final class Probe {
        int table;
        int wires;
        int base;
        int assumed;
        int at;
        int[] leads = new int[4];
        int[] strains = new int[3];
        boolean[] broken = new boolean[4];
        int[] slot;
        int low = -200000;
        int high = 850000;
        int hysteresis;
        boolean alarm;
        List<Integer> readings = new ArrayList<>();

        Probe twin() {
            Probe twin = new Probe();
            twin.table = table;
            twin.wires = wires;
            twin.base = base;
            twin.assumed = assumed;
            twin.at = at;
            twin.leads = leads.clone();
            twin.strains = strains.clone();
            twin.broken = broken.clone();
            twin.slot = slot;
            twin.low = low;
            twin.high = high;
            twin.hysteresis = hysteresis;
            twin.alarm = alarm;
            twin.readings = new ArrayList<>(readings);
            return twin;
        }

        List<Integer> kept() {
            return readings.subList(Math.max(0, readings.size() - 9), readings.size());
        }
    }

    private static final class World {
        List<TreeMap<Integer, Integer>> tables = new ArrayList<>();
        List<Probe> probes = new ArrayList<>();
        int[] settings = {100000, 1000, 1414, 20, 500, 5000, 3};
        int[] scanned;

        World twin() {
            World twin = new World();
            for (TreeMap<Integer, Integer> table : tables) {
                twin.tables.add(new TreeMap<>(table));
            }
            for (Probe probe : probes) {
                twin.probes.add(probe.twin());
            }
            twin.settings = settings.clone();
            twin.scanned = scanned;
            return twin;
        }
    }

    private World world = new World();
    private Deque<World> history = new ArrayDeque<>();
    private String text = "";

    private void change() {
        history.addLast(world.twin());
        if (history.size() > 4) {
            history.removeFirst();
        }
    }

    private boolean noTable(int table) {
        return table < 0 || table >= world.tables.size();
    }

    private boolean noSensor(int sensor) {
        return sensor < 0 || sensor >= world.probes.size();
    }

    private static boolean out(long value, long low, long high) {
        return value < low || value > high;
    }

    public int table() {
        if (world.tables.size() == 3) {
            return LIMIT;
        }
        change();
        world.tables.add(new TreeMap<>());
        return world.tables.size() - 1;
    }

    public int node(int table, int temperature, int ratio) {
        if (noTable(table) || out(temperature, -200000, 850000) || out(ratio, 1, 10000000)) {
            return INVALID;
        }
        for (Probe probe : world.probes) {
            if (probe.table == table) {
                return IMPOSSIBLE;
            }
        }
        TreeMap<Integer, Integer> nodes = world.tables.get(table);
        if (!nodes.isEmpty() && (temperature <= nodes.lastKey() || ratio <= nodes.lastEntry().getValue())) {
            return IMPOSSIBLE;
        }
        if (nodes.size() == 12) {
            return LIMIT;
        }
        change();
        nodes.put(temperature, ratio);
        return nodes.size();
    }

    public int nodeAt(int table, int index, int what) {
        if (noTable(table) || index < 0 || out(what, 0, 1)) {
            return INVALID;
        }
        List<Map.Entry<Integer, Integer>> nodes = new ArrayList<>(world.tables.get(table).entrySet());
        if (index >= nodes.size()) {
            return NONE;
        }
        return what == 0 ? nodes.get(index).getKey() : nodes.get(index).getValue();
    }

    private static boolean goes(TreeMap<Integer, Integer> nodes, int temperature) {
        return nodes.size() >= 2 && temperature >= nodes.firstKey() && temperature <= nodes.lastKey();
    }

    private static long ratioOf(TreeMap<Integer, Integer> nodes, int t) {
        if (nodes.containsKey(t)) {
            return nodes.get(t);
        }
        Map.Entry<Integer, Integer> below = nodes.lowerEntry(t);
        Map.Entry<Integer, Integer> above = nodes.higherEntry(t);
        long a = below.getKey();
        long b = above.getKey();
        long p = below.getValue();
        long q = above.getValue();
        return p + (q - p) * (t - a) / (b - a);
    }

    /** By the next whole number above the quotient, where the program halves. */
    private static int inverseOf(TreeMap<Integer, Integer> nodes, BigInteger ratio) {
        if (nodes.size() < 2 || ratio.compareTo(BigInteger.valueOf(nodes.firstEntry().getValue())) < 0
                || ratio.compareTo(BigInteger.valueOf(nodes.lastEntry().getValue())) > 0) {
            return NONE;
        }
        long wanted = ratio.longValueExact();
        Map.Entry<Integer, Integer> before = null;
        for (Map.Entry<Integer, Integer> node : nodes.entrySet()) {
            if (node.getValue() >= wanted) {
                if (before == null) {
                    return node.getKey();
                }
                long rise = node.getValue() - before.getValue();
                long run = (long) node.getKey() - before.getKey();
                long part = (wanted - before.getValue()) * run;
                return (int) (before.getKey() + (part + rise - 1) / rise);
            }
            before = node;
        }
        throw new IllegalStateException("no node above");
    }

    public int ratio(int table, int temperature) {
        if (noTable(table) || out(temperature, -200000, 850000)) {
            return INVALID;
        }
        TreeMap<Integer, Integer> nodes = world.tables.get(table);
        return goes(nodes, temperature) ? (int) ratioOf(nodes, temperature) : NONE;
    }

    public int inverse(int table, int ratio) {
        if (noTable(table) || out(ratio, 1, 10000000)) {
            return INVALID;
        }
        return inverseOf(world.tables.get(table), BigInteger.valueOf(ratio));
    }

    public int sensor(int table, int wires, int base) {
        if (noTable(table) || out(wires, 2, 4) || out(base, 1000, 2000000)) {
            return INVALID;
        }
        TreeMap<Integer, Integer> nodes = world.tables.get(table);
        if (nodes.size() < 2) {
            return IMPOSSIBLE;
        }
        if (world.probes.size() == 6) {
            return LIMIT;
        }
        change();
        Probe probe = new Probe();
        probe.table = table;
        probe.wires = wires;
        probe.base = base;
        probe.assumed = base;
        if (nodes.firstKey() > 0) {
            probe.at = nodes.firstKey();
        } else if (nodes.lastKey() < 0) {
            probe.at = nodes.lastKey();
        }
        world.probes.add(probe);
        return world.probes.size() - 1;
    }

    private int inSlot(int card, int slot) {
        for (Probe probe : world.probes) {
            if (probe.slot != null && probe.slot[0] == card && probe.slot[1] == slot) {
                return world.probes.indexOf(probe);
            }
        }
        return -1;
    }

    public int plug(int sensor, int card, int slot) {
        if (noSensor(sensor) || out(card, 0, 3) || out(slot, 0, 2)) {
            return INVALID;
        }
        Probe probe = world.probes.get(sensor);
        boolean taken = card == 3 || card == 0 && probe.wires == 2 || card == 1 && probe.wires == 3
                || card == 2 && probe.wires == 4;
        if (probe.slot != null || inSlot(card, slot) >= 0 || !taken) {
            return IMPOSSIBLE;
        }
        change();
        probe.slot = new int[] {card, slot};
        int slots = 0;
        for (Probe other : world.probes) {
            if (other.slot != null && other.slot[0] == card) {
                slots++;
            }
        }
        return slots;
    }

    public int unplug(int sensor) {
        if (noSensor(sensor)) {
            return INVALID;
        }
        Probe probe = world.probes.get(sensor);
        if (probe.slot == null) {
            return IMPOSSIBLE;
        }
        change();
        int told = 10 * probe.slot[0] + probe.slot[1];
        probe.slot = null;
        return told;
    }

    public int slotAt(int card, int slot) {
        if (out(card, 0, 3) || out(slot, 0, 2)) {
            return INVALID;
        }
        int found = inSlot(card, slot);
        return found < 0 ? NONE : found;
    }

    public int bath(int sensor, int temperature) {
        if (noSensor(sensor) || out(temperature, -200000, 850000)) {
            return INVALID;
        }
        Probe probe = world.probes.get(sensor);
        if (!goes(world.tables.get(probe.table), temperature)) {
            return IMPOSSIBLE;
        }
        change();
        int was = probe.at;
        probe.at = temperature;
        return was;
    }

    public int lead(int sensor, int wire, int lead) {
        if (noSensor(sensor) || out(wire, 0, world.probes.get(sensor).wires - 1) || out(lead, 0, 50000)) {
            return INVALID;
        }
        change();
        int was = world.probes.get(sensor).leads[wire];
        world.probes.get(sensor).leads[wire] = lead;
        return was;
    }

    public int strain(int sensor, int what, int value) {
        if (noSensor(sensor) || out(what, 0, 2) || out(value, STRAIN_RANGES[what][0], STRAIN_RANGES[what][1])) {
            return INVALID;
        }
        change();
        int was = world.probes.get(sensor).strains[what];
        world.probes.get(sensor).strains[what] = value;
        return was;
    }

    private static int bits(boolean[] broken) {
        int bits = 0;
        for (int wire = 0; wire < broken.length; wire++) {
            bits += broken[wire] ? 1 << wire : 0;
        }
        return bits;
    }

    public int cut(int sensor, int wire, int broken) {
        if (noSensor(sensor) || out(wire, 0, world.probes.get(sensor).wires - 1) || out(broken, 0, 1)) {
            return INVALID;
        }
        Probe probe = world.probes.get(sensor);
        if (probe.broken[wire] == (broken != 0)) {
            return IMPOSSIBLE;
        }
        change();
        probe.broken[wire] = broken != 0;
        return Integer.bitCount(bits(probe.broken));
    }

    public int drift(int sensor, int millionths) {
        if (noSensor(sensor) || out(millionths, -100000, 100000)) {
            return INVALID;
        }
        Probe probe = world.probes.get(sensor);
        long base = probe.base * (1000000L + millionths) / 1000000L;
        if (out(base, 1000, 2000000)) {
            return IMPOSSIBLE;
        }
        change();
        probe.base = (int) base;
        return probe.base;
    }

    public int calibrate(int sensor, int temperature) {
        if (noSensor(sensor) || out(temperature, -200000, 850000)) {
            return INVALID;
        }
        Probe probe = world.probes.get(sensor);
        int diagnosis = diagnosis(sensor);
        if (diagnosis >= 1 && diagnosis <= 4 || !goes(world.tables.get(probe.table), temperature)) {
            return IMPOSSIBLE;
        }
        long base = withoutPower(probe) * 1000000L / ratioOf(world.tables.get(probe.table), temperature);
        if (out(base, 1000, 2000000)) {
            return IMPOSSIBLE;
        }
        change();
        probe.assumed = (int) base;
        return probe.assumed;
    }

    public int limits(int sensor, int low, int high, int hysteresis) {
        if (noSensor(sensor) || out(low, -200000, 850000) || out(high, low, 850000) || out(hysteresis, 0, 100000)) {
            return INVALID;
        }
        change();
        Probe probe = world.probes.get(sensor);
        int was = probe.alarm ? 1 : 0;
        probe.low = low;
        probe.high = high;
        probe.hysteresis = hysteresis;
        probe.alarm = false;
        return was;
    }

    public int sensorOf(int sensor, int what) {
        if (noSensor(sensor) || out(what, 0, 18)) {
            return INVALID;
        }
        Probe probe = world.probes.get(sensor);
        int[] leads = {NONE, NONE, NONE, NONE};
        System.arraycopy(probe.leads, 0, leads, 0, probe.wires);
        int place = probe.slot == null ? NONE : 10 * probe.slot[0] + probe.slot[1];
        return new int[] {probe.table, probe.wires, probe.base, probe.assumed, probe.at, leads[0], leads[1], leads[2],
            leads[3], probe.strains[0], probe.strains[1], probe.strains[2], bits(probe.broken), place, probe.low,
            probe.high, probe.hysteresis, probe.alarm ? 1 : 0, probe.readings.size()}[what];
    }

    public int set(int what, int value) {
        if (out(what, 0, 6) || out(value, SETTING_RANGES[what][0], SETTING_RANGES[what][1])) {
            return INVALID;
        }
        change();
        int was = world.settings[what];
        world.settings[what] = value;
        return was;
    }

    private static BigInteger big(long number) {
        return BigInteger.valueOf(number);
    }

    private static BigInteger quotient(BigInteger dividend, long divisor) {
        return dividend.divide(big(divisor));
    }

    private long heated(Probe probe, int c) {
        if (probe.strains[2] == 1) {
            return 0;
        }
        TreeMap<Integer, Integer> nodes = world.tables.get(probe.table);
        BigInteger cold = quotient(big(probe.base).multiply(big(ratioOf(nodes, probe.at))), 1000000);
        BigInteger power = quotient(big(c).multiply(big(c)).multiply(cold), 1000000);
        BigInteger warmer = quotient(power.multiply(big(probe.strains[0])), 1000000);
        BigInteger warm = big(probe.at).add(warmer).min(big(nodes.lastKey()));
        return quotient(big(probe.base).multiply(big(ratioOf(nodes, warm.intValueExact()))), 1000000).longValueExact();
    }

    private long countOf(Probe probe, int c, int loop, int way) {
        if (way == 2) {
            return (countOf(probe, c, loop, 0) - countOf(probe, c, loop, 1)) / 2;
        }
        long ohms = loop == 1 ? probe.leads[1] + probe.leads[2] : heated(probe, c);
        if (loop == 0 && probe.wires < 4) {
            ohms += probe.leads[0] + probe.leads[1];
        }
        BigInteger voltage = big(c).multiply(big(ohms));
        if (way == 1) {
            voltage = voltage.negate();
        }
        voltage = voltage.add(big(probe.strains[1]));
        BigInteger power = BigInteger.ONE.shiftLeft(world.settings[3]);
        BigInteger counts = quotient(voltage.multiply(power), (long) c * world.settings[0]);
        BigInteger bound = power.multiply(big(4));
        return counts.min(bound).max(bound.negate()).longValueExact();
    }

    private long byCounts(long counts) {
        BigInteger power = BigInteger.ONE.shiftLeft(world.settings[3]);
        return big(counts).multiply(big(world.settings[0])).divide(power).longValueExact();
    }

    private long compensated(Probe probe, int c) {
        long loop = byCounts(countOf(probe, c, 0, 2));
        return probe.wires == 3 ? loop - byCounts(countOf(probe, c, 1, 2)) : loop;
    }

    private long withoutPower(Probe probe) {
        int c = world.settings[1];
        int d = world.settings[2];
        BigInteger x = big(compensated(probe, c));
        BigInteger y = big(compensated(probe, d));
        if (c == d) {
            return x.longValueExact();
        }
        BigInteger part = quotient(y.subtract(x).multiply(big((long) c * c)), (long) d * d - (long) c * c);
        return x.subtract(part).min(big(2000000000)).max(big(-2000000000)).longValueExact();
    }

    private int temperature(Probe probe) {
        BigInteger ratio = quotient(big(withoutPower(probe)).multiply(big(1000000)), probe.assumed);
        return inverseOf(world.tables.get(probe.table), ratio);
    }

    public int counts(int sensor, int current, int loop, int way) {
        if (noSensor(sensor) || out(current, 100, 5000) || out(loop, 0, 1) || out(way, 0, 2)) {
            return INVALID;
        }
        Probe probe = world.probes.get(sensor);
        return loop == 1 && probe.wires != 3 ? NONE : (int) countOf(probe, current, loop, way);
    }

    public int ohms(int sensor, int what) {
        if (noSensor(sensor) || out(what, 0, 5)) {
            return INVALID;
        }
        Probe probe = world.probes.get(sensor);
        int c = world.settings[1];
        switch (what) {
            case 0: return (int) heated(probe, c);
            case 1: return (int) byCounts(countOf(probe, c, 0, 0));
            case 2: return (int) byCounts(countOf(probe, c, 0, 2));
            case 3: return (int) compensated(probe, c);
            case 4: return (int) compensated(probe, world.settings[2]);
            default: return (int) withoutPower(probe);
        }
    }

    private boolean atBound(Probe probe) {
        long bound = 4L << world.settings[3];
        boolean found = false;
        for (int which = 1; which <= 2; which++) {
            for (int way = 0; way <= 1; way++) {
                found |= Math.abs(countOf(probe, world.settings[which], 0, way)) == bound;
            }
        }
        return found;
    }

    public int diagnosis(int sensor) {
        if (noSensor(sensor)) {
            return INVALID;
        }
        Probe probe = world.probes.get(sensor);
        boolean[] cases = {probe.slot == null, bits(probe.broken) != 0, withoutPower(probe) < probe.assumed / 10,
            atBound(probe), probe.wires == 3 && Math.abs(probe.leads[0] - probe.leads[1]) > world.settings[4],
            Math.abs(probe.strains[1]) > world.settings[5], temperature(probe) == NONE};
        for (int index = 0; index < cases.length; index++) {
            if (cases[index]) {
                return index + 1;
            }
        }
        return 0;
    }

    private int log(int sensor) {
        Probe probe = world.probes.get(sensor);
        int reading = temperature(probe);
        probe.readings.add(reading);
        if (!probe.alarm) {
            probe.alarm = reading < probe.low || reading > probe.high;
        } else if (reading >= probe.low + probe.hysteresis && reading <= probe.high - probe.hysteresis) {
            probe.alarm = false;
        }
        return reading;
    }

    public int read(int sensor) {
        if (noSensor(sensor)) {
            return INVALID;
        }
        if (diagnosis(sensor) != 0) {
            return IMPOSSIBLE;
        }
        change();
        return log(sensor);
    }

    public int scan() {
        List<int[]> round = new ArrayList<>();
        for (int card = 0; card < 4; card++) {
            for (int slot = 0; slot < 3; slot++) {
                round.add(new int[] {card, slot});
            }
        }
        if (world.scanned != null) {
            Collections.rotate(round, -(world.scanned[0] * 3 + world.scanned[1] + 1));
        }
        for (int[] place : round) {
            int sensor = inSlot(place[0], place[1]);
            if (sensor >= 0) {
                change();
                world.scanned = place;
                if (diagnosis(sensor) != 0) {
                    return -1 - sensor;
                }
                log(sensor);
                return sensor;
            }
        }
        return IMPOSSIBLE;
    }

    public int readingAt(int sensor, int index) {
        if (noSensor(sensor) || index < 0) {
            return INVALID;
        }
        List<Integer> kept = world.probes.get(sensor).kept();
        return index >= kept.size() ? NONE : kept.get(kept.size() - 1 - index);
    }

    public int median(int sensor) {
        if (noSensor(sensor)) {
            return INVALID;
        }
        List<Integer> all = world.probes.get(sensor).readings;
        if (all.isEmpty()) {
            return NONE;
        }
        List<Integer> some = new ArrayList<>(all.subList(Math.max(0, all.size() - world.settings[6]), all.size()));
        Collections.sort(some);
        return some.get(some.size() % 2 == 0 ? some.size() / 2 - 1 : some.size() / 2);
    }

    public int meanBits(int sensor) {
        if (noSensor(sensor)) {
            return INVALID;
        }
        List<Integer> kept = world.probes.get(sensor).kept();
        if (kept.isEmpty()) {
            return NONE;
        }
        long sum = kept.stream().mapToLong(Integer::longValue).sum();
        return Float.floatToRawIntBits((float) ((double) sum / (double) kept.size() / 1000d));
    }

    public int count(int what) {
        if (what >= 20 && what <= 26) {
            return world.settings[what - 20];
        }
        if (what >= 10 && what <= 12) {
            return noTable(what - 10) ? NONE : world.tables.get(what - 10).size();
        }
        switch (what) {
            case 0: return world.tables.size();
            case 1: return world.probes.size();
            case 2: return (int) world.probes.stream().filter(probe -> probe.slot != null).count();
            case 3: return (int) world.probes.stream().filter(probe -> probe.alarm).count();
            case 4: return world.probes.stream().mapToInt(probe -> probe.readings.size()).sum();
            case 5: return world.scanned == null ? NONE : 10 * world.scanned[0] + world.scanned[1];
            case 6: return history.size();
            case 7: return text.length();
            default: return INVALID;
        }
    }

    public int undo() {
        if (history.isEmpty()) {
            return IMPOSSIBLE;
        }
        world = history.removeLast();
        return history.size();
    }

    public int type(int character) {
        if (out(character, 32, 126)) {
            return INVALID;
        }
        if (text.length() == 60) {
            return LIMIT;
        }
        text += (char) character;
        return text.length();
    }

    public int clearText() {
        int was = text.length();
        text = "";
        return was;
    }

    private int reason(Matcher order) {
        String found = order.group();
        if (found.equals("s;")) {
            return scan() == IMPOSSIBLE ? 3 : 0;
        }
        String sensor = order.group(1) != null ? order.group(1) : order.group(3) != null ? order.group(3) : order.group(5);
        int number = Integer.parseInt(sensor);
        if (noSensor(number)) {
            return 2;
        }
        if (found.startsWith("t")) {
            return bath(number, Integer.parseInt(order.group(2))) <= INVALID ? 3 : 0;
        }
        if (found.startsWith("r")) {
            return read(number) == IMPOSSIBLE ? 3 : 0;
        }
        int told = cut(number, Integer.parseInt(order.group(6)), order.group(4).equals("b") ? 1 : 0);
        return told == INVALID ? 2 : told == IMPOSSIBLE ? 3 : 0;
    }

    /** Does the orders on the world as it is, and answers {fault's place, reason, orders done}. */
    private int[] run() {
        int at = 0;
        int done = 0;
        while (at < text.length()) {
            Matcher order = ORDER.matcher(text).region(at, text.length());
            int reason = order.lookingAt() ? reason(order) : 1;
            if (reason != 0) {
                return new int[] {at, reason, done};
            }
            done++;
            at = order.end();
        }
        return new int[] {at, 0, done};
    }

    public int fault(int what) {
        if (out(what, 0, 1)) {
            return INVALID;
        }
        World before = world.twin();
        Deque<World> kept = new ArrayDeque<>(history);
        int[] told = run();
        world = before;
        history = kept;
        return told[1] == 0 ? NONE : told[what];
    }

    public int play() {
        World before = world.twin();
        Deque<World> kept = new ArrayDeque<>(history);
        int[] told = run();
        World after = world;
        world = before;
        history = kept;
        if (told[1] != 0) {
            return IMPOSSIBLE;
        }
        change();
        world = after;
        return told[2];
    }
}
