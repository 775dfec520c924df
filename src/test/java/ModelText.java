import java.math.BigInteger;
import java.util.ArrayList;
import java.util.LinkedHashMap;
import java.util.List;
import java.util.Map;
import java.util.Set;
import java.util.regex.Matcher;
import java.util.regex.Pattern;

/** The model's texts: "Terms", TOKENS, PROGRAM and FAULT, word by word. */
final class ModelText {
    private static final Pattern TOKEN = Pattern.compile(
        "[a-z][a-z0-9_]*|[0-9]+|==|!=|<=|>=|<<|>>|&&|\\|\\||[{};:,.()/=<>+\\-&|^!]");
    private static final Set<String> WORDS = Set.of(("header meta state extract goto select default accept reject action table"
        + " key actions exact lpm ternary control if else drop add remove apply checksum valid in out size").split(" "));
    private static final String END = "", BAD = "?";

    private final List<String> tokens = new ArrayList<>();
    private final List<Integer> places = new ArrayList<>();
    private final List<String> targets = new ArrayList<>();
    private final List<Integer> targetPlaces = new ArrayList<>();
    private final Program program = new Program();
    private Map<String, Integer> parameters = Map.of();
    private boolean inControl;
    private int statements;
    private int parts;
    private int at;

    static final class Fault extends RuntimeException {
        private static final long serialVersionUID = 1;
        final int place;

        Fault(int place) {
            this.place = place;
        }
    }

    interface Sum {
        long of(Model.Run run);
    }

    interface Test {
        boolean of(Model.Run run);
    }

    interface Statement {
        void on(Model.Run run);
    }

    static final class Program {
        final Map<String, Header> headers = new LinkedHashMap<>();
        final Map<String, Integer> metas = new LinkedHashMap<>();
        final Map<String, State> states = new LinkedHashMap<>();
        final Map<String, Action> actions = new LinkedHashMap<>();
        final Map<String, Table> tables = new LinkedHashMap<>();
        List<Statement> control;

        boolean declares(String name) {
            return headers.containsKey(name) || metas.containsKey(name) || actions.containsKey(name) || tables.containsKey(name);
        }
    }

    static final class Header {
        final Map<String, Integer> fields = new LinkedHashMap<>();

        int bits() {
            return fields.values().stream().mapToInt(Integer::intValue).sum();
        }

        int bitsBefore(String field) {
            int bits = 0;
            for (String name : fields.keySet()) {
                if (name.equals(field)) {
                    return bits;
                }
                bits += fields.get(name);
            }
            return bits;
        }

        Map<String, Long> taken(String bits) {
            Map<String, Long> values = new LinkedHashMap<>();
            fields.forEach((name, width) -> values.put(name, Model.number(bits.substring(bitsBefore(name), bitsBefore(name) + width))));
            return values;
        }

        String joined(Map<String, Long> values) {
            StringBuilder bits = new StringBuilder();
            if (values != null) {
                fields.forEach((name, width) -> bits.append(Model.bits(values.get(name), width)));
            }
            return bits.toString();
        }
    }

    static final class State {
        final List<Header> extracts = new ArrayList<>();
        Sum selected = run -> 0;
        final List<long[]> cases = new ArrayList<>();
        final List<String> caseTargets = new ArrayList<>();
        String otherwise = "reject";

        String next(Model.Run run) {
            for (int i = 0; i < cases.size(); i++) {
                if ((selected.of(run) & cases.get(i)[1]) == (cases.get(i)[0] & cases.get(i)[1])) {
                    return caseTargets.get(i);
                }
            }
            return otherwise;
        }
    }

    static final class Action {
        Map<String, Integer> parameters;
        List<Statement> statements;
    }

    static final class Key {
        Place place;
        String kind;
    }

    static final class Table {
        final List<Key> keys = new ArrayList<>();
        final List<Action> actions = new ArrayList<>();
        Action defaultAction;
        long[] defaultArguments = new long[3];
        int defaultsDone;
    }

    /** Where a number is read from and put to. */
    static final class Place {
        int width;
        Sum sum;
        Header header;
        String name;

        void assign(Model.Run run, long value) {
            long kept = value & (1L << width) - 1;
            if (header == null) {
                run.metas.put(name, kept);
            } else if (run.headers.get(header) != null) {
                run.headers.get(header).put(name, kept);
            }
        }
    }

    ModelText(String text) {
        Matcher matcher = TOKEN.matcher(text);
        int from = 0;
        while (true) {
            while (from < text.length() && (text.charAt(from) == ' ' || text.charAt(from) == '\n')) {
                from++;
            }
            places.add(from);
            if (from == text.length()) {
                tokens.add(END);
                return;
            }
            matcher.region(from, text.length());
            if (!matcher.lookingAt() || isTooMuch(matcher.group())) {
                tokens.add(BAD);
                return;
            }
            tokens.add(matcher.group());
            from = matcher.end();
        }
    }

    private static boolean isTooMuch(String token) {
        if (Character.isDigit(token.charAt(0))) {
            return new BigInteger(token).bitLength() > 48;
        }
        return token.length() > 8;
    }

    private String token() {
        return tokens.get(at);
    }

    private Fault fault() {
        return new Fault(places.get(at));
    }

    private void need(boolean holds) {
        if (!holds) {
            throw fault();
        }
    }

    private boolean is(String token) {
        return token().equals(token);
    }

    private boolean took(String token) {
        if (is(token)) {
            at++;
            return true;
        }
        return false;
    }

    private void take(String token) {
        need(took(token));
    }

    private boolean isName() {
        return token().matches("[a-z].*") && !WORDS.contains(token());
    }

    private boolean isNumber() {
        return token().matches("[0-9]+");
    }

    private String name() {
        need(isName());
        return tokens.get(at++);
    }

    private long value() {
        return new BigInteger(token()).longValue();
    }

    private long number() {
        need(isNumber());
        long number = value();
        at++;
        return number;
    }

    private int width() {
        need(isNumber() && value() >= 1 && value() <= 48);
        return (int) number();
    }

    private String newName() {
        need(isName() && !program.declares(token()));
        return name();
    }

    Program program() {
        while (!is("control")) {
            declaration();
        }
        need(!program.states.isEmpty());
        at++;
        inControl = true;
        program.control = block(0);
        need(is(END));
        for (int i = 0; i < targets.size(); i++) {
            if (!program.states.containsKey(targets.get(i))) {
                throw new Fault(targetPlaces.get(i));
            }
        }
        return program;
    }

    private void declaration() {
        switch (token()) {
            case "header":
                need(program.headers.size() < 6);
                at++;
                header();
                break;
            case "meta":
                need(program.metas.size() < 6);
                at++;
                String meta = newName();
                program.metas.put(meta, width());
                take(";");
                break;
            case "state":
                need(program.states.size() < 8);
                at++;
                state();
                break;
            case "action":
                need(program.actions.size() < 8);
                at++;
                action();
                break;
            case "table":
                need(program.tables.size() < 4);
                at++;
                table();
                break;
            default:
                throw fault();
        }
    }

    private void header() {
        Header header = new Header();
        program.headers.put(newName(), header);
        take("{");
        while (!is("}")) {
            need(isName() && header.fields.size() < 8 && !header.fields.containsKey(token()));
            String field = name();
            header.fields.put(field, width());
            take(";");
        }
        need(header.bits() > 0 && header.bits() % 8 == 0 && header.bits() <= 160);
        take("}");
    }

    private Header headerNamed() {
        need(isName() && !parameters.containsKey(token()) && program.headers.containsKey(token()));
        return program.headers.get(name());
    }

    private void state() {
        need(isName() && !program.states.containsKey(token()));
        State state = new State();
        program.states.put(name(), state);
        take("{");
        while (is("extract")) {
            need(state.extracts.size() < 3);
            at++;
            state.extracts.add(headerNamed());
            take(";");
        }
        if (took("goto")) {
            state.otherwise = target();
        } else {
            take("select");
            state.selected = place().sum;
            select(state);
        }
        take("}");
    }

    private void select(State state) {
        take("{");
        while (isNumber()) {
            need(state.cases.size() < 8);
            long number = number();
            long mask = took("/") ? number() : (1L << 48) - 1;
            take(":");
            state.cases.add(new long[] {number, mask});
            state.caseTargets.add(target());
        }
        if (took("default")) {
            take(":");
            state.otherwise = target();
        }
        take("}");
    }

    private String target() {
        String target = token();
        if (!took("accept") && !took("reject")) {
            targets.add(target);
            targetPlaces.add(places.get(at));
            name();
        }
        take(";");
        return target;
    }

    private void action() {
        Action action = new Action();
        String name = newName();
        program.actions.put(name, action);
        action.parameters = new LinkedHashMap<>();
        take("(");
        if (!is(")")) {
            do {
                need(isName() && action.parameters.size() < 3 && !action.parameters.containsKey(token()));
                String parameter = name();
                action.parameters.put(parameter, width());
            } while (took(","));
        }
        take(")");
        parameters = action.parameters;
        action.statements = block(0);
        parameters = Map.of();
    }

    private void table() {
        Table table = new Table();
        program.tables.put(newName(), table);
        take("{");
        take("key");
        do {
            need(table.keys.size() < 3);
            Key key = new Key();
            key.place = place();
            key.kind = token();
            need(is("exact") || is("ternary") || is("lpm") && table.keys.stream().noneMatch(other -> other.kind.equals("lpm")));
            at++;
            table.keys.add(key);
        } while (took(","));
        take(";");
        take("actions");
        do {
            need(isName() && table.actions.size() < 4 && program.actions.containsKey(token()));
            need(!table.actions.contains(program.actions.get(token())));
            table.actions.add(program.actions.get(name()));
        } while (took(","));
        take(";");
        take("default");
        defaultOf(table);
        take("}");
    }

    private void defaultOf(Table table) {
        need(isName() && table.actions.contains(program.actions.get(token())));
        table.defaultAction = program.actions.get(name());
        take("(");
        int k = 0;
        for (int width : table.defaultAction.parameters.values()) {
            if (k > 0) {
                take(",");
            }
            need(isNumber() && Model.fits(value(), width));
            table.defaultArguments[k] = number();
            k++;
        }
        take(")");
        take(";");
    }

    private Place place() {
        need(isName());
        Place place = new Place();
        place.name = token();
        if (parameters.containsKey(token())) {
            place.width = parameters.get(name());
            place.sum = run -> run.arguments.get(place.name);
        } else if (program.metas.containsKey(token())) {
            place.width = program.metas.get(name());
            place.sum = run -> run.metas.getOrDefault(place.name, 0L);
        } else {
            place.header = headerNamed();
            take(".");
            need(place.header.fields.containsKey(token()));
            place.name = name();
            place.width = place.header.fields.get(place.name);
            place.sum = run -> run.headers.get(place.header) == null ? 0 : run.headers.get(place.header).get(place.name);
        }
        return place;
    }

    private List<Statement> block(int ifs) {
        List<Statement> all = new ArrayList<>();
        take("{");
        while (!is("}")) {
            need(!is(END) && statements < 60);
            statements++;
            all.add(statement(ifs));
        }
        take("}");
        return all;
    }

    private Statement statement(int ifs) {
        if (is("if")) {
            need(inControl && ifs < 6);
            at++;
            return ifStatement(ifs + 1);
        }
        Statement statement = simpleStatement();
        take(";");
        return statement;
    }

    private Statement simpleStatement() {
        if (took("drop")) {
            return run -> run.dropped = true;
        }
        if (took("out")) {
            take("=");
            Sum sum = sum(0);
            return run -> run.out = sum.of(run) % 512;
        }
        if (took("add")) {
            Header header = headerNamed();
            return run -> run.headers.computeIfAbsent(header, none -> header.taken("0".repeat(header.bits())));
        }
        if (took("remove")) {
            Header header = headerNamed();
            return run -> run.headers.remove(header);
        }
        if (took("checksum")) {
            return checksum(headerNamed());
        }
        if (is("apply")) {
            need(inControl);
            at++;
            need(isName() && program.tables.containsKey(token()));
            Table table = program.tables.get(name());
            return run -> run.model.apply(table, run);
        }
        need(isName() && !parameters.containsKey(token()));
        Place place = place();
        take("=");
        Sum sum = sum(0);
        return run -> place.assign(run, sum.of(run));
    }

    private Statement checksum(Header header) {
        take(".");
        String field = token();
        need(header.fields.containsKey(field) && header.fields.get(field) == 16
            && header.bitsBefore(field) % 16 == 0 && header.bits() % 16 == 0);
        at++;
        return run -> {
            Map<String, Long> values = run.headers.get(header);
            if (values != null) {
                values.put(field, 0L);
                String bits = header.joined(values);
                long sum = 0;
                for (int from = 0; from < bits.length(); from += 16) {
                    sum += Model.number(bits.substring(from, from + 16));
                    sum = sum > 65535 ? sum - 65535 : sum;
                }
                values.put(field, 65535 - sum);
            }
        };
    }

    private Statement ifStatement(int ifs) {
        take("(");
        Test test = test(0);
        take(")");
        List<Statement> then = block(ifs);
        List<Statement> otherwise = took("else") ? block(ifs) : List.of();
        return run -> (test.of(run) ? then : otherwise).forEach(statement -> statement.on(run));
    }

    private Test test(int depth) {
        Test test = check(depth);
        String sign = token();
        while ((sign.equals("&&") || sign.equals("||")) && took(sign)) {
            Test left = test;
            Test right = check(depth);
            test = sign.equals("&&") ? run -> left.of(run) && right.of(run) : run -> left.of(run) || right.of(run);
        }
        return test;
    }

    private Test check(int depth) {
        if (is("!") || is("(")) {
            need(depth < 6);
            if (took("!")) {
                Test test = check(depth + 1);
                return run -> !test.of(run);
            }
            at++;
            Test test = test(depth + 1);
            take(")");
            return test;
        }
        if (program.headers.containsKey(token()) && at + 2 < tokens.size()
            && tokens.get(at + 1).equals(".") && tokens.get(at + 2).equals("valid")) {
            Header header = program.headers.get(token());
            at += 3;
            return run -> run.headers.get(header) != null;
        }
        Sum left = sum(0);
        String relation = token();
        need(Set.of("==", "!=", "<", "<=", ">", ">=").contains(relation));
        at++;
        need(!is("("));
        Sum right = sum(0);
        return run -> holds(relation, Long.compare(left.of(run), right.of(run)));
    }

    private static boolean holds(String relation, int order) {
        boolean same = order == 0;
        switch (relation.charAt(0)) {
            case '=':
                return same;
            case '!':
                return !same;
            case '<':
                return order < 0 || same && relation.length() == 2;
            default:
                return order > 0 || same && relation.length() == 2;
        }
    }

    private Sum sum(int depth) {
        Sum sum = part(depth);
        while (Set.of("+", "-", "&", "|", "^", "<<", ">>").contains(token())) {
            need(parts < 300);
            parts++;
            String sign = tokens.get(at++);
            Sum left = sum;
            Sum right = part(depth);
            sum = run -> joined(sign, left.of(run), right.of(run));
        }
        return sum;
    }

    private static long joined(String sign, long left, long right) {
        switch (sign) {
            case "+":
                return Math.floorMod(left + right, 1L << 48);
            case "-":
                return Math.floorMod(left - right, 1L << 48);
            case "&":
                return left & right;
            case "|":
                return left | right;
            case "^":
                return left ^ right;
            case "<<":
                return right >= 48 ? 0 : Model.number((Model.bits(left, 48) + "0".repeat((int) right)).substring((int) right));
            default:
                return right >= 48 ? 0 : Model.number(Model.bits(left, 48).substring(0, 48 - (int) right));
        }
    }

    private Sum part(int depth) {
        if (is("(")) {
            need(depth < 6);
            at++;
            Sum sum = sum(depth + 1);
            take(")");
            return sum;
        }
        need(parts < 300);
        parts++;
        if (isNumber()) {
            long number = number();
            return run -> number;
        }
        if (took("in")) {
            return run -> run.in;
        }
        if (took("out")) {
            return run -> run.out;
        }
        if (took("size")) {
            return run -> run.size;
        }
        return place().sum;
    }
}
