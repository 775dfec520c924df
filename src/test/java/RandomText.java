import java.util.ArrayList;
import java.util.List;
import java.util.Random;

/** Texts of programs that nobody thought of: most are fine, some have a fault. */
final class RandomText {
    private static final String[] STRANGE = {"$", "abcdefghi", "281474976710656", "0", "1", "49", "==", "<<", "&&", "||", "!",
        "(", ")", "{", "}", ";", ",", ".", "valid", "x", "h0", "m0", "out", "if", "state", "header", "default", "control"};
    private static final String[] OPERATORS = {"+", "-", "&", "|", "^", "<<", ">>"};
    private static final String[] RELATIONS = {"==", "!=", "<", "<=", ">", ">="};
    private static final String[] KINDS = {"exact", "lpm", "ternary", "exact", "ternary"};

    private final Random random;
    private final List<String> tokens = new ArrayList<>();
    private final List<String> headers = new ArrayList<>();
    // Fields as "h . f", and metas: what can be read and assigned to.
    private final List<String> places = new ArrayList<>();
    private final List<String> sums = new ArrayList<>();
    private final List<String> checked = new ArrayList<>();
    private final List<Integer> parameterCounts = new ArrayList<>();
    private int tables;
    private int states;

    RandomText(Random random) {
        this.random = random;
    }

    private void put(String words) {
        for (String word : words.split(" ")) {
            tokens.add(word);
        }
    }

    private String any(List<String> list) {
        return list.get(random.nextInt(list.size()));
    }

    private String any(String[] list) {
        return list[random.nextInt(list.length)];
    }

    private boolean oneIn(int count) {
        return random.nextInt(count) == 0;
    }

    String text() {
        int headerCount = oneIn(20) ? 6 : random.nextInt(4);
        for (int i = 0; i < headerCount; i++) {
            header("h" + i);
        }
        int metaCount = oneIn(20) ? 6 : random.nextInt(4);
        for (int i = 0; i < metaCount; i++) {
            put("meta m" + i + " " + width() + " ;");
            places.add("m" + i);
        }
        states = oneIn(20) ? 8 : 1 + random.nextInt(4);
        for (int i = 0; i < states; i++) {
            state("s" + i);
        }
        int actionCount = oneIn(20) ? 8 : random.nextInt(4);
        for (int i = 0; i < actionCount; i++) {
            action("f" + i);
        }
        int tableCount = actionCount == 0 || places.isEmpty() ? 0 : random.nextInt(4);
        for (int i = 0; i < tableCount; i++) {
            table("t" + i);
        }
        put("control {");
        statements(true, 0, oneIn(20) ? 20 : 5);
        put("}");
        for (int changes = oneIn(4) ? 1 + random.nextInt(2) : 0; changes > 0; changes--) {
            change();
        }
        return String.join(oneIn(2) ? " " : "\n", tokens);
    }

    private int width() {
        int[] often = {1, 3, 4, 8, 9, 16, 32, 47, 48};
        return oneIn(3) ? 1 + random.nextInt(48) : often[random.nextInt(often.length)];
    }

    private void header(String name) {
        put("header " + name + " {");
        int bits = 8 * (1 + random.nextInt(oneIn(5) ? 20 : 4));
        int before = 0;
        for (int i = 0; i < 8 && before < bits; i++) {
            int rest = bits - before;
            int width = i == 7 ? rest : Math.min(rest, width());
            put("f" + i + " " + Math.min(width, 48) + " ;");
            places.add(name + " . f" + i);
            if (width == 16) {
                checked.add(name + " . f" + i);
            }
            before += Math.min(width, 48);
        }
        put("}");
        headers.add(name);
    }

    private String target() {
        int choice = random.nextInt(12);
        return choice == 0 ? "reject" : choice <= 7 ? "accept" : "s" + random.nextInt(states);
    }

    private void state(String name) {
        put("state " + name + " {");
        for (int i = headers.isEmpty() ? 0 : random.nextInt(3); i > 0; i--) {
            put("extract " + any(headers) + " ;");
        }
        if (places.isEmpty() || oneIn(3)) {
            put("goto " + target() + " ; }");
            return;
        }
        put("select " + any(places) + " {");
        for (int i = random.nextInt(oneIn(9) ? 9 : 4); i > 0; i--) {
            put(number() + (oneIn(2) ? " / " + number() : "") + " : " + target() + " ;");
        }
        put((oneIn(8) ? "" : "default : " + target() + " ; ") + "} }");
    }

    private void action(String name) {
        int count = random.nextInt(4);
        String[] names = {"p", oneIn(5) ? "m0" : "q", oneIn(5) ? "h0" : "r"};
        put("action " + name + " (");
        for (int i = 0; i < count; i++) {
            put((i > 0 ? ", " : "") + names[i] + " " + (oneIn(3) ? width() : 9));
            sums.add(names[i]);
        }
        put(") {");
        statements(false, 0, 3);
        put("}");
        sums.clear();
        parameterCounts.add(count);
    }

    private void table(String name) {
        put("table " + name + " { key");
        boolean prefix = false;
        int keys = 1 + random.nextInt(3);
        for (int i = 0; i < keys; i++) {
            String kind = any(KINDS);
            kind = prefix && kind.equals("lpm") ? "exact" : kind;
            prefix |= kind.equals("lpm");
            put((i > 0 ? ", " : "") + any(places) + " " + kind);
        }
        int first = random.nextInt(parameterCounts.size());
        int count = 1 + random.nextInt(Math.min(4, parameterCounts.size()));
        put("; actions f" + first);
        for (int i = 1; i < count; i++) {
            put(", f" + (first + i) % parameterCounts.size());
        }
        int chosen = (first + random.nextInt(count)) % parameterCounts.size();
        put("; default f" + chosen + " (");
        for (int i = 0; i < parameterCounts.get(chosen); i++) {
            put((i > 0 ? ", " : "") + random.nextInt(3));
        }
        put(") ; }");
        tables++;
    }

    private void statements(boolean inControl, int ifs, int most) {
        for (int i = random.nextInt(most + 1); i > 0; i--) {
            if (inControl && ifs < 4 && oneIn(4)) {
                put("if (");
                test(0);
                put(") {");
                statements(true, ifs + 1, 3);
                put("}");
                if (oneIn(2)) {
                    put("else {");
                    statements(true, ifs + 1, 3);
                    put("}");
                }
            } else {
                simple(inControl);
                put(";");
            }
        }
    }

    private void simple(boolean inControl) {
        int choice = random.nextInt(10);
        if (choice <= 2 && inControl && tables > 0) {
            put("apply t" + random.nextInt(tables));
        } else if (choice == 3 && !headers.isEmpty()) {
            put("add " + any(headers));
        } else if (choice == 4 && !headers.isEmpty()) {
            put("remove " + any(headers));
        } else if (choice == 5 && !checked.isEmpty()) {
            put("checksum " + any(checked));
        } else if (choice == 6 && oneIn(6)) {
            put("drop");
        } else {
            put(places.isEmpty() || oneIn(3) ? "out =" : any(places) + " =");
            sum(0);
        }
    }

    private String number() {
        int choice = random.nextInt(8);
        return choice == 0 ? Long.toString(random.nextLong() & (1L << 48) - 1) : choice == 1 ? Integer.toString(random.nextInt(600))
            : Integer.toString(random.nextInt(5));
    }

    private void sum(int depth) {
        part(depth, true);
        for (int i = random.nextInt(3); i > 0; i--) {
            put(any(OPERATORS));
            part(depth, true);
        }
    }

    private void part(int depth, boolean mayBeBracket) {
        int choice = random.nextInt(10);
        if (choice == 0 && mayBeBracket && depth < 6) {
            put("(");
            sum(depth + 1);
            put(")");
        } else if (choice <= 3 || places.isEmpty()) {
            put(number());
        } else if (choice == 4) {
            put(oneIn(2) ? "in" : "size");
        } else if (choice == 5) {
            put("out");
        } else {
            put(sums.isEmpty() || oneIn(2) ? any(places) : any(sums));
        }
    }

    private void test(int depth) {
        check(depth);
        String sign = oneIn(2) ? "&&" : "||";
        for (int i = random.nextInt(3); i > 0; i--) {
            put(sign);
            check(depth);
        }
    }

    private void check(int depth) {
        int choice = random.nextInt(8);
        if (choice == 0 && depth < 6) {
            put("!");
            check(depth + 1);
        } else if (choice == 1 && depth < 6) {
            put("(");
            test(depth + 1);
            put(")");
        } else if (choice <= 3 && !headers.isEmpty()) {
            put(any(headers) + " . valid");
        } else {
            part(0, false);
            put(any(RELATIONS));
            part(0, false);
        }
    }

    private void change() {
        int at = random.nextInt(tokens.size());
        switch (random.nextInt(4)) {
            case 0:
                tokens.remove(at);
                break;
            case 1:
                tokens.set(at, tokens.get(random.nextInt(tokens.size())));
                break;
            case 2:
                tokens.add(at, tokens.get(at));
                break;
            default:
                tokens.set(at, any(STRANGE));
        }
    }
}
