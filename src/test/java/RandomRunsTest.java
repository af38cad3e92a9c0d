import java.lang.reflect.Method;
import java.util.ArrayList;
import java.util.Arrays;
import java.util.List;
import java.util.Map;
import java.util.Random;
import java.util.TreeMap;
import java.util.TreeSet;

/** Long runs of calls, the same ones each time, whose answers are compared with those of OhmModel. */
public final class RandomRunsTest {
    private static final int RUNS = 1500;
    private static final int CALLS = 512;
    private static final int[] TEMPERATURES = {-200000, -100000, -50000, -1, 0, 1, 20000, 100000, 400000, 849999, 850000};
    private static final int[] ODD = {Integer.MIN_VALUE, Integer.MIN_VALUE + 1, -2000000001, -850001, -200001, -100001,
        -1, 0, 1, 2, 3, 4, 5, 6, 7, 8, 9, 10, 13, 19, 27, 31, 32, 60, 99, 127, 999, 5001, 9999, 50001, 100001, 850001, 1000001,
        2000001, 10000001, Integer.MAX_VALUE - 1, Integer.MAX_VALUE};
    /** Calls by name, with a sign for the range of each argument; a name that stands twice comes twice as often. */
    private static final String[][] CALLS_BY_NAME = {
        {"table"}, {"node", "table", "temperature", "ratio"}, {"nodeAt", "table", "small", "bit"},
        {"ratio", "table", "temperature"}, {"inverse", "table", "ratio"}, {"sensor", "table", "wires", "base"},
        {"plug", "sensor", "card", "slot"}, {"plug", "sensor", "card", "slot"}, {"unplug", "sensor"},
        {"slotAt", "card", "slot"}, {"bath", "sensor", "temperature"}, {"bath", "sensor", "temperature"},
        {"lead", "sensor", "wire", "lead"}, {"strain", "sensor", "strain", "strained"}, {"cut", "sensor", "wire", "broken"}, {"cut", "sensor", "wire", "bit"},
        {"drift", "sensor", "drift"}, {"calibrate", "sensor", "near"}, {"limits", "sensor", "low", "high", "slack"},
        {"sensorOf", "sensor", "of"}, {"set", "setting", "set"}, {"counts", "sensor", "current", "bit", "way"},
        {"ohms", "sensor", "six"}, {"ohms", "sensor", "six"}, {"diagnosis", "sensor"}, {"diagnosis", "sensor"},
        {"read", "sensor"}, {"read", "sensor"}, {"scan"}, {"scan"}, {"readingAt", "sensor", "small"},
        {"median", "sensor"}, {"meanBits", "sensor"}, {"count", "count"}, {"count", "count"}, {"undo"},
        {"fault", "bit"}, {"play"}};

    private final Random random;
    private final OhmBridge bridge = new OhmBridge();
    private final OhmModel model = new OhmModel();
    private final List<String> told = new ArrayList<>();
    private final boolean tame;
    private static final Map<String, TreeSet<Integer>> seen = new TreeMap<>();
    private int calls = 0;
    private int lastWhat = 0;
    private int lastLow = 0;

    private RandomRunsTest(int seed) {
        random = new Random(seed);
        tame = seed % 4 != 0;
    }

    public static void main(String[] args) throws Exception {
        for (int seed = 1; seed <= RUNS; seed++) {
            if (!new RandomRunsTest(seed).agrees()) {
                System.exit(1);
            }
        }
        boolean all = saw("diagnosis", 0, 1, 2, 3, 4, 5, 6, 7) & saw("fault", Due.NOT_FOUND, 0, 1, 2, 3)
                & saw("scan", 0, 1, 2, 3, 4, 5, -1, -2, -3, -4, -5, -6, Due.NOT_POSSIBLE)
                & saw("table", 0, 1, 2, Due.LIMIT) & saw("node", 2, 12, Due.LIMIT, Due.NOT_POSSIBLE, Due.INVALID)
                & saw("sensor", 5, Due.LIMIT, Due.NOT_POSSIBLE, Due.INVALID) & saw("plug", 1, 2, 3, Due.NOT_POSSIBLE)
                & saw("cut", 0, 1, 2, 3, Due.NOT_POSSIBLE) & saw("limits", 0, 1) & saw("undo", 0, 1, 2, 3, Due.NOT_POSSIBLE)
                & saw("play", 0, 1, 2, 3, 4, 5, Due.NOT_POSSIBLE) & saw("type", 60, Due.LIMIT, Due.INVALID)
                & saw("calibrate", Due.INVALID, Due.NOT_POSSIBLE) & saw("drift", Due.NOT_POSSIBLE)
                & saw("bath", Due.NOT_POSSIBLE) & saw("read", Due.NOT_POSSIBLE) & saw("median", Due.NOT_FOUND);
        System.out.println("        " + RUNS + " runs compared");
        if (!all) {
            System.exit(1);
        }
    }

    /** A comparison is worth little if its runs never get to some answer. */
    private static boolean saw(String name, int... answers) {
        boolean all = true;
        for (int answer : answers) {
            if (!seen.getOrDefault(name, new TreeSet<>()).contains(answer)) {
                System.out.println("no run got the answer " + answer + " of " + name);
                all = false;
            }
        }
        return all;
    }

    private boolean agrees() throws Exception {
        if (tame && !prepared()) {
            return false;
        }
        while (calls < CALLS) {
            boolean fine = random.nextInt(25) == 0 ? typed() : called(CALLS_BY_NAME[random.nextInt(CALLS_BY_NAME.length)]);
            if (!fine) {
                return false;
            }
        }
        return true;
    }

    /** Tables and sensors by which something can be read, as chance makes few of these. */
    private boolean prepared() throws Exception {
        boolean fine = call("table") && call("node", 0, -200000, 185200) && call("node", 0, 0, 1000000)
                && call("node", 0, 850000, 3904800);
        if (random.nextBoolean()) {
            fine &= call("table") && call("node", 1, 10000, 900000) && call("node", 1, 10300, 900001);
            for (int node = 0; node < 10 && random.nextInt(12) > 0; node++) {
                fine &= call("node", 1, 20000 + node * 9000 + random.nextInt(5000), 950000 + node * 90000 + random.nextInt(80000));
            }
        }
        int sensors = random.nextInt(7);
        for (int sensor = 0; sensor < sensors; sensor++) {
            int wires = 2 + random.nextInt(3);
            fine &= call("sensor", random.nextInt(6) == 0 ? 1 : 0, wires, value("base"));
            fine &= call("plug", sensor, random.nextInt(3) == 0 ? 3 : wires - 2, random.nextInt(3));
        }
        return fine;
    }

    private boolean called(String[] named) throws Exception {
        int[] arguments = new int[named.length - 1];
        for (int index = 0; index < arguments.length; index++) {
            arguments[index] = random.nextInt(40) == 0 ? ODD[random.nextInt(ODD.length)] : value(named[index + 1]);
            if (index == 1) {
                lastWhat = arguments[index];
            }
        }
        if (named[0].equals("set")) {
            lastWhat = arguments[0];
            arguments[1] = random.nextInt(30) == 0 ? ODD[random.nextInt(ODD.length)] : value("set");
        }
        return call(named[0], arguments);
    }

    private int from(int low, int high) {
        return low + random.nextInt(high - low + 1);
    }

    private int value(String range) {
        switch (range) {
            case "table": return random.nextInt(8) == 0 ? from(0, 3) : from(0, 1);
            case "sensor": return random.nextInt(20) == 0 || bridge.count(1) == 0 ? from(-1, 6) : from(0, bridge.count(1) - 1);
            case "temperature": return tame && random.nextInt(3) > 0 ? from(-20000, 60000)
                    : random.nextBoolean() ? TEMPERATURES[random.nextInt(TEMPERATURES.length)] : from(-200000, 850000);
            case "near": return from(-30000, 70000);
            case "ratio": return random.nextInt(3) == 0 ? from(1, 10000000) : from(100000, 4000000);
            case "wires": return from(2, 4);
            case "base": return random.nextInt(4) == 0 ? from(1000, 2000000) : random.nextInt(3) == 0 ? 1000 : 100000;
            case "card": return from(0, 3);
            case "slot": case "way": return from(0, 2);
            case "wire": return from(0, 3);
            case "bit": return from(0, 1);
            case "broken": return random.nextInt(5) == 0 ? 1 : 0;
            case "lead": return random.nextInt(5) == 0 ? from(0, 50000) : from(0, 900);
            case "strain": return from(0, 2);
            case "strained": return lastWhat == 0 ? from(0, 5000) : lastWhat == 2 ? random.nextInt(4) / 3
                    : random.nextInt(4) == 0 ? from(-100000, 100000) : from(-5100, 5100);
            case "drift": return random.nextInt(3) == 0 ? from(-100000, 100000) : from(-900, 900);
            case "low": lastLow = from(-40000, 40000); return lastLow;
            case "high": return lastLow + from(-100, 60000);
            case "slack": return random.nextInt(3) == 0 ? from(0, 100000) : from(0, 9000);
            case "of": return from(0, 18);
            case "setting": return from(0, 6);
            case "set": return setting();
            case "current": return from(100, 5000);
            case "six": return from(0, 5);
            case "small": return from(0, 10);
            default: return random.nextInt(3) == 0 ? from(20, 26) : random.nextInt(4) == 0 ? from(10, 12) : from(0, 7);
        }
    }

    private int setting() {
        boolean wide = random.nextInt(3) == 0;
        switch (lastWhat) {
            case 0: return wide ? from(10000, 1000000) : 100000;
            case 1: return wide ? from(100, 5000) : 1000;
            case 2: return wide ? from(100, 5000) : random.nextInt(3) == 0 ? 1000 : 1414;
            case 3: return wide ? from(8, 24) : 20;
            case 4: return from(0, 2000);
            case 5: return from(0, 20000);
            default: return from(1, 9);
        }
    }

    /** Types a text of whole orders mostly, with a sign of it spoilt at times. */
    private boolean typed() throws Exception {
        StringBuilder text = new StringBuilder();
        int orders = random.nextInt(9);
        for (int order = 0; order < orders; order++) {
            int sensor = value("sensor");
            String number = random.nextInt(20) == 0 ? "000" + sensor : String.valueOf(Math.max(0, sensor));
            switch (random.nextInt(5)) {
                case 0: text.append("t" + number + "," + from(-20000, 60000) + ";"); break;
                case 1: text.append("r" + number + ";"); break;
                case 2: text.append("b" + number + "," + from(0, 3) + ";"); break;
                case 3: text.append("m" + number + "," + from(0, 3) + ";"); break;
                default: text.append("s;");
            }
        }
        if (text.length() > 0 && random.nextInt(4) == 0) {
            String signs = "trbms;,-0129 x";
            int at = random.nextInt(text.length());
            char sign = signs.charAt(random.nextInt(signs.length()));
            switch (random.nextInt(3)) {
                case 0: text.setCharAt(at, sign); break;
                case 1: text.insert(at, sign); break;
                default: text.deleteCharAt(at);
            }
        }
        boolean fine = random.nextInt(20) == 0 || call("clearText");
        for (int at = 0; at < text.length() && fine; at++) {
            fine = call("type", (int) text.charAt(at));
        }
        return fine && (random.nextInt(9) > 0 || call("type", from(20, 140))) && call("fault", 0) && call("fault", 1) && call("play");
    }

    private boolean call(String name, int... arguments) throws Exception {
        if (calls >= CALLS) {
            return true;
        }
        calls++;
        Class<?>[] types = new Class<?>[arguments.length];
        Object[] values = new Object[arguments.length];
        for (int index = 0; index < arguments.length; index++) {
            types[index] = int.class;
            values[index] = arguments[index];
        }
        Method asked = OhmBridge.class.getMethod(name, types);
        Method due = OhmModel.class.getMethod(name, types);
        int want = (Integer) due.invoke(model, values);
        int answer = (Integer) asked.invoke(bridge, values);
        told.add(name + Arrays.toString(arguments) + " -> " + answer);
        seen.computeIfAbsent(name, key -> new TreeSet<>()).add(answer);
        if (answer == want) {
            return true;
        }
        told.forEach(System.out::println);
        System.out.println("the model answers " + want);
        return false;
    }
}
