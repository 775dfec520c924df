import java.math.BigInteger;
import java.util.ArrayList;
import java.util.LinkedHashMap;
import java.util.List;
import java.util.Map;

/**
 * The document once more, as plain as it can be and with all of Java's library: bits are texts of 0 and 1.
 * ModelTest compares what PacketSwitch answers with it.
 */
final class Model {
    private final StringBuilder tape = new StringBuilder();
    private ModelText.Program program;
    private final List<ModelText.Table> tables = new ArrayList<>();
    private final List<Entry> entries = new ArrayList<>();
    private Entry madeUp = new Entry();
    private int nextEntry;
    private int packets;
    private int rejected;
    private String out = "";

    /** An entry of a table, or the one that is made up. */
    static final class Entry {
        private int number;
        private int table;
        private ModelText.Action action;
        private int priority;
        private int hits;
        private final long[] values = new long[3];
        private final long[] masks = new long[3];
        private final long[] arguments = new long[3];
    }

    /** What a packet's way through the program has: null stands for a header that is not valid. */
    static final class Run {
        final Map<ModelText.Header, Map<String, Long>> headers = new LinkedHashMap<>();
        final Map<String, Long> metas = new LinkedHashMap<>();
        Map<String, Long> arguments = new LinkedHashMap<>();
        long out;
        long in;
        long size;
        boolean dropped;
        String rest;
        Model model;
    }

    static String bits(long value, int width) {
        String all = Long.toBinaryString(value);
        return "0".repeat(Math.max(0, width - all.length())) + all;
    }

    static long number(String bits) {
        return bits.isEmpty() ? 0 : new BigInteger(bits, 2).longValue();
    }

    static boolean fits(long value, int width) {
        return value >= 0 && BigInteger.valueOf(value).bitLength() <= width;
    }

    int feed(int a, int b, int c, int d, int e) {
        if (tape.length() > 1980) {
            return PacketSwitch.FULL;
        }
        for (int word : new int[] {a, b, c, d, e}) {
            for (int shift : new int[] {24, 16, 8, 0}) {
                tape.append((char) (word >>> shift & 255));
            }
        }
        return tape.length();
    }

    int end(int n) {
        if (n < 0 || n > tape.length()) {
            return PacketSwitch.REFUSED;
        }
        tape.setLength(n);
        return n;
    }

    int load() {
        String text = tape.toString();
        tape.setLength(0);
        try {
            program = new ModelText(text).program();
        } catch (ModelText.Fault fault) {
            return fault.place;
        }
        tables.clear();
        tables.addAll(program.tables.values());
        entries.clear();
        nextEntry = 0;
        packets = 0;
        rejected = 0;
        return PacketSwitch.NONE;
    }

    int match(int k, long value, long mask) {
        if (k < 0 || k > 2) {
            return PacketSwitch.REFUSED;
        }
        madeUp.values[k] = value;
        madeUp.masks[k] = mask;
        return k;
    }

    int argument(int k, long value) {
        if (k < 0 || k > 2) {
            return PacketSwitch.REFUSED;
        }
        madeUp.arguments[k] = value;
        return k;
    }

    private boolean isNone(int table, int action) {
        return table < 0 || table >= tables.size() || action < 0 || action >= tables.get(table).actions.size();
    }

    private boolean argumentsFit(ModelText.Action action) {
        int k = 0;
        for (int width : action.parameters.values()) {
            if (!fits(madeUp.arguments[k], width)) {
                return false;
            }
            k++;
        }
        return true;
    }

    private boolean keyFits(ModelText.Key key, long value, long mask) {
        if (!fits(value, key.place.width)) {
            return false;
        }
        String all = bits(value, key.place.width);
        if (key.kind.equals("lpm")) {
            return mask >= 0 && mask <= key.place.width && !all.substring((int) mask).contains("1");
        }
        return key.kind.equals("exact") || fits(mask, key.place.width) && (value | mask) == mask;
    }

    private boolean isTwin(Entry one, List<ModelText.Key> keys, int priority) {
        boolean same = one.priority == priority;
        for (int k = 0; k < keys.size(); k++) {
            same &= one.values[k] == madeUp.values[k];
            same &= one.masks[k] == madeUp.masks[k] || keys.get(k).kind.equals("exact");
        }
        return same;
    }

    int insert(int table, int action, int priority) {
        if (isNone(table, action)) {
            return PacketSwitch.NONE;
        }
        List<ModelText.Key> keys = tables.get(table).keys;
        for (int k = 0; k < keys.size(); k++) {
            if (!keyFits(keys.get(k), madeUp.values[k], madeUp.masks[k])) {
                return PacketSwitch.REFUSED;
            }
        }
        if (!argumentsFit(tables.get(table).actions.get(action))) {
            return PacketSwitch.REFUSED;
        }
        if (entries.stream().anyMatch(one -> one.table == table && isTwin(one, keys, priority))) {
            return PacketSwitch.THERE;
        }
        if (look(table, 0) == 24) {
            return PacketSwitch.FULL;
        }
        madeUp.number = nextEntry++;
        madeUp.table = table;
        madeUp.action = tables.get(table).actions.get(action);
        madeUp.priority = priority;
        entries.add(madeUp);
        madeUp = new Entry();
        return nextEntry - 1;
    }

    int remove(int entry) {
        for (Entry one : entries) {
            if (one.number == entry) {
                entries.remove(one);
                return look(one.table, 0);
            }
        }
        return PacketSwitch.NONE;
    }

    int fallback(int table, int action) {
        if (isNone(table, action)) {
            return PacketSwitch.NONE;
        }
        ModelText.Action chosen = tables.get(table).actions.get(action);
        if (!argumentsFit(chosen)) {
            return PacketSwitch.REFUSED;
        }
        tables.get(table).defaultAction = chosen;
        tables.get(table).defaultArguments = madeUp.arguments;
        madeUp = new Entry();
        return 0;
    }

    int packet(int port) {
        if (port < 0 || port > 511 || tape.length() > 200) {
            return PacketSwitch.REFUSED;
        }
        StringBuilder packet = new StringBuilder();
        tape.chars().forEach(octet -> packet.append(bits(octet, 8)));
        tape.setLength(0);
        if (program == null) {
            return PacketSwitch.NONE;
        }
        packets++;
        out = "";
        Run run = new Run();
        run.model = this;
        run.in = port;
        run.size = packet.length() / 8;
        run.rest = packet.toString();
        if (!takeApart(run)) {
            rejected++;
            return PacketSwitch.DROPPED;
        }
        program.control.forEach(statement -> statement.on(run));
        if (run.dropped) {
            return PacketSwitch.DROPPED;
        }
        program.headers.values().forEach(header -> out += header.joined(run.headers.get(header)));
        out += run.rest;
        return (int) run.out;
    }

    private boolean takeApart(Run run) {
        String at = program.states.keySet().iterator().next();
        for (int visits = 1; visits <= 16; visits++) {
            ModelText.State state = program.states.get(at);
            for (ModelText.Header header : state.extracts) {
                if (run.rest.length() < header.bits()) {
                    return false;
                }
                run.headers.put(header, header.taken(run.rest));
                run.rest = run.rest.substring(header.bits());
            }
            at = state.next(run);
            if (at.equals("accept") || at.equals("reject")) {
                return at.equals("accept");
            }
        }
        return false;
    }

    private static boolean matches(Entry entry, List<ModelText.Key> keys, Run run) {
        for (int k = 0; k < keys.size(); k++) {
            int width = keys.get(k).place.width;
            String value = bits(entry.values[k], width);
            String place = bits(keys.get(k).place.sum.of(run), width);
            for (int bit = 0; bit < width; bit++) {
                boolean counts = keys.get(k).kind.equals("exact")
                    || keys.get(k).kind.equals("lpm") && bit < entry.masks[k]
                    || keys.get(k).kind.equals("ternary") && bits(entry.masks[k], width).charAt(bit) == '1';
                if (counts && value.charAt(bit) != place.charAt(bit)) {
                    return false;
                }
            }
        }
        return true;
    }

    private static long prefix(Entry entry, List<ModelText.Key> keys) {
        for (int k = 0; k < keys.size(); k++) {
            if (keys.get(k).kind.equals("lpm")) {
                return entry.masks[k];
            }
        }
        return 0;
    }

    void apply(ModelText.Table table, Run run) {
        List<Entry> found = new ArrayList<>();
        for (Entry entry : entries) {
            if (tables.get(entry.table) == table && matches(entry, table.keys, run)) {
                found.add(entry);
            }
        }
        // The sort keeps the older one first where all else is the same.
        found.sort((one, other) -> prefix(one, table.keys) != prefix(other, table.keys)
            ? Long.compare(prefix(other, table.keys), prefix(one, table.keys)) : Integer.compare(other.priority, one.priority));
        if (found.isEmpty()) {
            table.defaultsDone++;
            perform(table.defaultAction, table.defaultArguments, run);
        } else {
            found.get(0).hits++;
            perform(found.get(0).action, found.get(0).arguments, run);
        }
    }

    private static void perform(ModelText.Action action, long[] arguments, Run run) {
        run.arguments = new LinkedHashMap<>();
        int k = 0;
        for (String name : action.parameters.keySet()) {
            run.arguments.put(name, arguments[k]);
            k++;
        }
        action.statements.forEach(statement -> statement.on(run));
    }

    int octet(int i) {
        if (i == -1) {
            return out.length() / 8;
        }
        return i < 0 || i >= out.length() / 8 ? PacketSwitch.NONE : (int) number(out.substring(8 * i, 8 * i + 8));
    }

    int hits(int entry) {
        return entries.stream().filter(one -> one.number == entry).findFirst().map(one -> one.hits).orElse(PacketSwitch.NONE);
    }

    int look(int table, int what) {
        if (what < 0 || what > 1) {
            return PacketSwitch.REFUSED;
        }
        if (table < 0 || table >= tables.size()) {
            return PacketSwitch.NONE;
        }
        return what == 1 ? tables.get(table).defaultsDone : (int) entries.stream().filter(one -> one.table == table).count();
    }

    int count(int what) {
        if (what < 0 || what > 6) {
            return PacketSwitch.REFUSED;
        }
        if (program == null) {
            return 0;
        }
        return new int[] {program.headers.size(), program.metas.size(), program.states.size(), program.actions.size(),
            program.tables.size(), packets, rejected}[what];
    }
}
