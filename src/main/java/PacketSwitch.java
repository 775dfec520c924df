import java.util.Arrays;

/** A switch that is programmed: ../shared/DOC.md promises what each call answers. */
public final class PacketSwitch {
    public static final int REFUSED = -1, NONE = -2, FULL = -3, THERE = -4, DROPPED = -5;

    private static final int TAPE_LIMIT = 2000, FEED_BYTES = 20, PACKET_LIMIT = 200, PORTS = 512;

    // What a program may have of each kind.
    private static final int HEADER_LIMIT = 6, FIELD_LIMIT = 8, HEADER_BITS_LIMIT = 160, META_LIMIT = 6;
    private static final int STATE_LIMIT = 8, EXTRACT_LIMIT = 3, CASE_LIMIT = 8;
    private static final int ACTION_LIMIT = 8, PARAMETER_LIMIT = 3;
    private static final int TABLE_LIMIT = 4, KEY_LIMIT = 3, TABLE_ACTION_LIMIT = 4, ENTRY_LIMIT = 24;
    private static final int STATEMENT_LIMIT = 60, PART_LIMIT = 300, DEPTH_LIMIT = 6;
    private static final int DECLARATION_LIMIT =
        HEADER_LIMIT + META_LIMIT + STATE_LIMIT + ACTION_LIMIT + TABLE_LIMIT;

    private static final int NUMBER_BITS = 48;
    private static final long NUMBER_MASK = (1L << NUMBER_BITS) - 1;

    // Kinds of tokens. A sign of one byte is its own kind, one of two bytes both of them.
    private static final int END = 0, BAD = 1, NAME = 2, NUMBER = 3;
    private static final int SAME = '=' << 8 | '=', OTHER = '!' << 8 | '=';
    private static final int AT_MOST = '<' << 8 | '=', AT_LEAST = '>' << 8 | '=';
    private static final int LEFT = '<' << 8 | '<', RIGHT = '>' << 8 | '>';
    private static final int AND = '&' << 8 | '&', OR = '|' << 8 | '|';

    // The kind of a word is FIRST_WORD and its place in WORDS, which is one line since + joins no texts here.
    private static final String WORDS = "header meta state extract goto select default accept reject action table key actions exact lpm ternary control if else drop add remove apply checksum valid in out size";
    private static final int WORD_COUNT = 28, FIRST_WORD = 128;
    private static final int HEADER = 128, META = 129, STATE = 130, EXTRACT = 131, GOTO = 132;
    private static final int SELECT = 133, DEFAULT = 134, ACCEPT = 135, REJECT = 136, ACTION = 137;
    private static final int TABLE = 138, KEY = 139, ACTIONS = 140, EXACT = 141, LPM = 142;
    private static final int TERNARY = 143, CONTROL = 144, IF = 145, ELSE = 146, DROP = 147;
    private static final int ADD = 148, REMOVE = 149, APPLY = 150, CHECKSUM = 151, VALID = 152;
    private static final int IN = 153, OUT = 154, SIZE = 155;

    // Everything that a sum can read has a slot; FIELD_LIMIT slots for each header come first.
    private static final int FIRST_META = HEADER_LIMIT * FIELD_LIMIT;
    private static final int FIRST_PARAMETER = FIRST_META + META_LIMIT;
    private static final int OUT_SLOT = FIRST_PARAMETER + PARAMETER_LIMIT;
    private static final int IN_SLOT = OUT_SLOT + 1, SIZE_SLOT = OUT_SLOT + 2, SLOT_COUNT = OUT_SLOT + 3;

    private final byte[] tape = new byte[TAPE_LIMIT];
    private int tapeLength;
    private final Machine machine = new Machine();
    private Entry madeUp = new Entry();
    // Null until the first load: an object that never loads takes little room.
    private Compiler compiler;
    private Program program;
    // A text is compiled into the spare program, so that a fault leaves the other one whole.
    private Program spare;

    public PacketSwitch() {
        tapeLength = 0;
    }

    public int feed(int a, int b, int c, int d, int e) {
        if (tapeLength + FEED_BYTES > TAPE_LIMIT) {
            return FULL;
        }
        append(a);
        append(b);
        append(c);
        append(d);
        append(e);
        return tapeLength;
    }

    private void append(int word) {
        for (int shift = 24; shift >= 0; shift -= 8) {
            tape[tapeLength] = (byte) (word >> shift);
            tapeLength++;
        }
    }

    public int end(int n) {
        if (n < 0 || n > tapeLength) {
            return REFUSED;
        }
        tapeLength = n;
        return n;
    }

    public int load() {
        if (compiler == null) {
            compiler = new Compiler();
        }
        if (spare == null) {
            spare = new Program();
        }
        int answer = compiler.compile(tape, tapeLength, spare);
        tapeLength = 0;
        if (answer == NONE) {
            Program old = program;
            program = spare;
            spare = old;
        }
        return answer;
    }

    public int match(int k, long value, long mask) {
        if (k < 0 || k >= KEY_LIMIT) {
            return REFUSED;
        }
        madeUp.values[k] = value;
        madeUp.masks[k] = mask;
        return k;
    }

    public int argument(int k, long value) {
        if (k < 0 || k >= PARAMETER_LIMIT) {
            return REFUSED;
        }
        madeUp.arguments[k] = value;
        return k;
    }

    public int insert(int table, int action, int priority) {
        Table into = tableNumbered(table);
        if (into == null || !into.hasAction(action)) {
            return NONE;
        }
        if (!into.keysFit(madeUp) || !argumentsFit(into.actions[action])) {
            return REFUSED;
        }
        if (into.holdsTwin(madeUp, priority)) {
            return THERE;
        }
        if (into.entryCount >= ENTRY_LIMIT) {
            return FULL;
        }
        madeUp.number = program.nextEntry;
        madeUp.action = into.actions[action];
        madeUp.priority = priority;
        into.append(madeUp);
        program.nextEntry++;
        madeUp = new Entry();
        return program.nextEntry - 1;
    }

    public int remove(int entry) {
        Table from = tableWithEntry(entry);
        if (from == null) {
            return NONE;
        }
        from.takeOut(from.indexOfEntry(entry));
        return from.entryCount;
    }

    public int fallback(int table, int action) {
        Table of = tableNumbered(table);
        if (of == null || !of.hasAction(action)) {
            return NONE;
        }
        if (!argumentsFit(of.actions[action])) {
            return REFUSED;
        }
        of.defaultAction = of.actions[action];
        System.arraycopy(madeUp.arguments, 0, of.defaultArguments, 0, PARAMETER_LIMIT);
        madeUp.clear();
        return 0;
    }

    public int packet(int port) {
        if (port < 0 || port >= PORTS || tapeLength > PACKET_LIMIT) {
            return REFUSED;
        }
        int size = tapeLength;
        tapeLength = 0;
        return program == null ? NONE : machine.run(program, tape, size, port);
    }

    public int octet(int i) {
        if (i == -1) {
            return machine.outLength;
        }
        return i < 0 || i >= machine.outLength ? NONE : machine.out[i] & 255;
    }

    public int hits(int entry) {
        Table of = tableWithEntry(entry);
        return of == null ? NONE : of.entries[of.indexOfEntry(entry)].hits;
    }

    public int look(int table, int what) {
        if (what != 0 && what != 1) {
            return REFUSED;
        }
        Table at = tableNumbered(table);
        if (at == null) {
            return NONE;
        }
        return what == 0 ? at.entryCount : at.defaultsDone;
    }

    public int count(int what) {
        if (what < 0 || what > 6) {
            return REFUSED;
        }
        return program == null ? 0 : program.tally(what);
    }

    private Table tableNumbered(int number) {
        boolean there = program != null && number >= 0 && number < program.tableCount;
        return there ? program.tables[number] : null;
    }

    private Table tableWithEntry(int entry) {
        if (program == null) {
            return null;
        }
        for (int t = 0; t < program.tableCount; t++) {
            if (program.tables[t].indexOfEntry(entry) >= 0) {
                return program.tables[t];
            }
        }
        return null;
    }

    private boolean argumentsFit(int action) {
        Action of = program.actions[action];
        for (int k = 0; k < of.parameterCount; k++) {
            if (!isBelow(madeUp.arguments[k], of.widths[k])) {
                return false;
            }
        }
        return true;
    }

    private static long ones(int bits) {
        return (1L << bits) - 1;
    }

    private static boolean isBelow(long value, int width) {
        return value >= 0 && value <= ones(width);
    }

    /** A text cut into tokens. Behind the last one stands END, or BAD where no token begins. */
    private static final class Tokens {
        private static final int NAME_LIMIT = 8;
        private static final String SIGNS = "{};:,.()/=<>+-&|^!";

        private final int[] kinds = new int[TAPE_LIMIT + 1];
        private final int[] places = new int[TAPE_LIMIT + 1];
        // A number's value, or a name's letters, a byte each: names are compared as longs.
        private final long[] values = new long[TAPE_LIMIT + 1];
        private final long[] words = new long[WORD_COUNT];
        private int size;

        Tokens() {
            int word = 0;
            for (int i = 0; i < WORDS.length() && word < WORD_COUNT; i++) {
                char letter = WORDS.charAt(i);
                if (letter == ' ') {
                    word++;
                } else {
                    words[word] = words[word] << 8 | letter;
                }
            }
        }

        void scan(byte[] text, int length) {
            size = 0;
            int next = 0;
            for (int i = 0; i < length; i++) {
                if (i >= next && text[i] != ' ' && text[i] != '\n') {
                    next = scanToken(text, length, i);
                }
            }
            put(END, length, 0);
        }

        /** Where the token ends that begins at a byte; the text's end for none, so that scanning ends. */
        private int scanToken(byte[] text, int length, int begin) {
            int first = text[begin];
            if (isLetter(first)) {
                return scanName(text, length, begin);
            }
            if (isDigit(first)) {
                return scanNumber(text, length, begin);
            }
            int second = begin + 1 < length ? text[begin + 1] : 0;
            if (isDouble(first, second)) {
                put(first << 8 | second, begin, 0);
                return begin + 2;
            }
            // A byte from 128 on is negative here, and no sign.
            if (first > 0 && SIGNS.indexOf((char) first) >= 0) {
                put(first, begin, 0);
                return begin + 1;
            }
            put(BAD, begin, 0);
            return length;
        }

        private int scanName(byte[] text, int length, int begin) {
            long name = 0;
            int end = begin;
            for (int i = begin; i < length && isNameSign(text[i]); i++) {
                name = name << 8 | text[i];
                end = i + 1;
            }
            if (end - begin > NAME_LIMIT) {
                put(BAD, begin, 0);
                return length;
            }
            put(kindOfName(name), begin, name);
            return end;
        }

        private int scanNumber(byte[] text, int length, int begin) {
            long number = 0;
            int end = begin;
            for (int i = begin; i < length && isDigit(text[i]); i++) {
                // Past the greatest number it grows no more: it must not wrap around.
                number = number > NUMBER_MASK ? number : number * 10 + (text[i] - '0');
                end = i + 1;
            }
            if (number > NUMBER_MASK) {
                put(BAD, begin, 0);
                return length;
            }
            put(NUMBER, begin, number);
            return end;
        }

        private int kindOfName(long name) {
            for (int i = 0; i < WORD_COUNT; i++) {
                if (words[i] == name) {
                    return FIRST_WORD + i;
                }
            }
            return NAME;
        }

        private void put(int kind, int place, long value) {
            if (size < kinds.length) {
                kinds[size] = kind;
                places[size] = place;
                values[size] = value;
                size++;
            }
        }

        private static boolean isLetter(int sign) {
            return sign >= 'a' && sign <= 'z';
        }

        private static boolean isDigit(int sign) {
            return sign >= '0' && sign <= '9';
        }

        private static boolean isNameSign(int sign) {
            return isLetter(sign) || isDigit(sign) || sign == '_';
        }

        private static boolean isDouble(int first, int second) {
            if (second == '=') {
                return first == '=' || first == '!' || first == '<' || first == '>';
            }
            return first == second && (first == '<' || first == '>' || first == '&' || first == '|');
        }
    }

    /**
     * Reads the tokens of a text from left to right into a program. Behind the first fault the
     * token at hand is BAD for good: it can stand nowhere, so that all that is open ends by itself.
     */
    private static final class Compiler {
        // What a name means: a meta's or a parameter's slot, or one of these and a number.
        private static final int UNKNOWN = -1, A_HEADER = 100, AN_ACTION = 200, A_TABLE = 300;
        private static final int MEANING_ROOM = 100;

        private final Tokens tokens = new Tokens();
        private Program program;
        private int at;
        private int kind;
        private long value;
        private int fault;
        private final long[] names = new long[DECLARATION_LIMIT];
        private final int[] meanings = new int[DECLARATION_LIMIT];
        private int nameCount;
        private final long[] fieldNames = new long[HEADER_LIMIT * FIELD_LIMIT];
        private final long[] stateNames = new long[STATE_LIMIT];
        private final long[] parameterNames = new long[PARAMETER_LIMIT];
        private int parameterCount;
        // States may be named before they are declared: targets are looked up in the end.
        private final long[] targetNames = new long[Program.TARGET_COUNT];
        private final int[] targetPlaces = new int[Program.TARGET_COUNT];
        private int statementCount;
        private int partCount;
        private boolean inControl;

        /** NONE, or the place of the text's fault. */
        int compile(byte[] text, int length, Program into) {
            tokens.scan(text, length);
            begin(into);
            for (int i = 0; i <= DECLARATION_LIMIT && kind != CONTROL && fault < 0; i++) {
                switch (kind) {
                    case HEADER:
                        header();
                        break;
                    case META:
                        meta();
                        break;
                    case STATE:
                        state();
                        break;
                    case ACTION:
                        action();
                        break;
                    case TABLE:
                        table();
                        break;
                    default:
                        fail();
                }
            }
            control();
            findTargets();
            return fault < 0 ? NONE : fault;
        }

        private void begin(Program into) {
            program = into;
            program.clear();
            nameCount = 0;
            parameterCount = 0;
            statementCount = 0;
            partCount = 0;
            inControl = false;
            Arrays.fill(targetNames, 0L);
            fault = -1;
            at = -1;
            advance();
        }

        private void advance() {
            if (fault < 0 && at + 1 < tokens.size) {
                at++;
                kind = tokens.kinds[at];
                value = tokens.values[at];
            }
        }

        private void fail() {
            if (fault < 0) {
                fault = tokens.places[at];
                kind = BAD;
            }
        }

        private void expect(int wanted) {
            if (kind == wanted) {
                advance();
            } else {
                fail();
            }
        }

        private void header() {
            int number = program.headerCount;
            if (number >= HEADER_LIMIT) {
                fail();
                return;
            }
            advance();
            declare(A_HEADER + number);
            expect('{');
            for (int i = 0; i <= FIELD_LIMIT && kind == NAME; i++) {
                field(number);
            }
            int bits = program.headerBits[number];
            if (kind == '}' && (bits == 0 || bits % 8 != 0 || bits > HEADER_BITS_LIMIT)) {
                fail();
            }
            expect('}');
            program.headerCount++;
        }

        private void field(int header) {
            if (program.fieldCounts[header] >= FIELD_LIMIT || fieldNamed(header) >= 0) {
                fail();
                return;
            }
            int slot = header * FIELD_LIMIT + program.fieldCounts[header];
            fieldNames[slot] = value;
            advance();
            program.widths[slot] = width();
            program.headerBits[header] += program.widths[slot];
            program.fieldCounts[header]++;
            expect(';');
        }

        private void meta() {
            int number = program.metaCount;
            if (number >= META_LIMIT) {
                fail();
                return;
            }
            advance();
            declare(FIRST_META + number);
            program.widths[FIRST_META + number] = width();
            expect(';');
            program.metaCount++;
        }

        private void state() {
            int number = program.stateCount;
            if (number >= STATE_LIMIT) {
                fail();
                return;
            }
            advance();
            if (kind != NAME || stateNamed(value) >= 0) {
                fail();
            }
            stateNames[number] = value;
            program.stateCount++;
            advance();
            expect('{');
            State state = program.states[number];
            for (int i = 0; i <= EXTRACT_LIMIT && kind == EXTRACT; i++) {
                extract(state);
            }
            next(state, number * Program.STATE_TARGETS);
            expect('}');
        }

        private void extract(State state) {
            if (state.extractCount >= EXTRACT_LIMIT) {
                fail();
                return;
            }
            advance();
            state.extracts[state.extractCount] = declared(A_HEADER);
            state.extractCount++;
            expect(';');
        }

        private void next(State state, int firstTarget) {
            if (kind == GOTO) {
                advance();
                target(firstTarget + CASE_LIMIT);
                expect(';');
                return;
            }
            expect(SELECT);
            state.slot = place();
            expect('{');
            for (int i = 0; i <= CASE_LIMIT && kind == NUMBER; i++) {
                selectCase(state, firstTarget);
            }
            if (kind == DEFAULT) {
                advance();
                expect(':');
                target(firstTarget + CASE_LIMIT);
                expect(';');
            }
            expect('}');
        }

        private void selectCase(State state, int firstTarget) {
            int number = state.caseCount;
            if (number >= CASE_LIMIT) {
                fail();
                return;
            }
            state.numbers[number] = value;
            state.masks[number] = NUMBER_MASK;
            advance();
            if (kind == '/') {
                advance();
                state.masks[number] = value;
                expect(NUMBER);
            }
            expect(':');
            target(firstTarget + number);
            expect(';');
            state.caseCount++;
        }

        private void target(int number) {
            if (kind == ACCEPT) {
                program.targets[number] = Program.TO_ACCEPT;
            } else if (kind == NAME) {
                targetNames[number] = value;
                targetPlaces[number] = tokens.places[at];
            } else if (kind != REJECT) {
                fail();
            }
            advance();
        }

        private void findTargets() {
            for (int i = 0; i < Program.TARGET_COUNT && fault < 0; i++) {
                if (targetNames[i] != 0) {
                    program.targets[i] = stateNamed(targetNames[i]);
                    if (program.targets[i] < 0) {
                        fault = targetPlaces[i];
                    }
                }
            }
        }

        private int stateNamed(long name) {
            for (int i = 0; i < program.stateCount; i++) {
                if (stateNames[i] == name) {
                    return i;
                }
            }
            return UNKNOWN;
        }

        private void action() {
            int number = program.actionCount;
            if (number >= ACTION_LIMIT) {
                fail();
                return;
            }
            advance();
            declare(AN_ACTION + number);
            Action action = program.actions[number];
            action.start = program.codeLength;
            expect('(');
            if (kind == NAME) {
                parameter(action);
            }
            for (int i = 0; i < PARAMETER_LIMIT && parameterCount > 0 && kind == ','; i++) {
                advance();
                parameter(action);
            }
            expect(')');
            action.parameterCount = parameterCount;
            block(0);
            emit(END, 0);
            parameterCount = 0;
            program.actionCount++;
        }

        private void parameter(Action action) {
            if (kind != NAME || parameterCount >= PARAMETER_LIMIT || isParameter(meaning())) {
                fail();
                return;
            }
            int number = parameterCount;
            parameterNames[number] = value;
            parameterCount++;
            advance();
            action.widths[number] = width();
        }

        private void table() {
            int number = program.tableCount;
            if (number >= TABLE_LIMIT) {
                fail();
                return;
            }
            advance();
            declare(A_TABLE + number);
            expect('{');
            Table table = program.tables[number];
            expect(KEY);
            key(table);
            for (int i = 0; i < KEY_LIMIT && kind == ','; i++) {
                advance();
                key(table);
            }
            expect(';');
            expect(ACTIONS);
            tableAction(table);
            for (int i = 0; i < TABLE_ACTION_LIMIT && kind == ','; i++) {
                advance();
                tableAction(table);
            }
            expect(';');
            tableDefault(table);
            expect('}');
            program.tableCount++;
        }

        private void key(Table table) {
            int number = table.keyCount;
            if (number >= KEY_LIMIT) {
                fail();
                return;
            }
            table.keySlots[number] = place();
            table.keyWidths[number] = program.widths[table.keySlots[number]];
            boolean secondPrefix = kind == LPM && table.prefixKey >= 0;
            if (secondPrefix || kind != EXACT && kind != LPM && kind != TERNARY) {
                fail();
                return;
            }
            table.keyKinds[number] = kind;
            table.prefixKey = kind == LPM ? number : table.prefixKey;
            table.keyCount++;
            advance();
        }

        private void tableAction(Table table) {
            int action = meaning() - AN_ACTION;
            boolean isNew = table.actionCount < TABLE_ACTION_LIMIT && !table.offers(action);
            if (action < 0 || action >= ACTION_LIMIT || !isNew) {
                fail();
                return;
            }
            table.actions[table.actionCount] = action;
            table.actionCount++;
            advance();
        }

        private void tableDefault(Table table) {
            expect(DEFAULT);
            int action = meaning() - AN_ACTION;
            if (!table.offers(action)) {
                fail();
                return;
            }
            table.defaultAction = action;
            advance();
            expect('(');
            Action of = program.actions[action];
            for (int k = 0; k < of.parameterCount; k++) {
                if (k > 0) {
                    expect(',');
                }
                if (kind != NUMBER || !isBelow(value, of.widths[k])) {
                    fail();
                }
                table.defaultArguments[k] = value;
                advance();
            }
            expect(')');
            expect(';');
        }

        private void control() {
            if (kind != CONTROL || program.stateCount == 0) {
                fail();
                return;
            }
            inControl = true;
            program.controlStart = program.codeLength;
            advance();
            block(0);
            emit(END, 0);
            if (kind != END) {
                fail();
            }
        }

        private void block(int ifs) {
            expect('{');
            for (int i = 0; i <= STATEMENT_LIMIT && kind != '}' && fault < 0; i++) {
                statement(ifs);
            }
            expect('}');
        }

        private void statement(int ifs) {
            if (statementCount >= STATEMENT_LIMIT) {
                fail();
                return;
            }
            statementCount++;
            switch (kind) {
                case NAME:
                    assign(placeToAssign());
                    break;
                case OUT:
                    advance();
                    assign(OUT_SLOT);
                    break;
                case DROP:
                    advance();
                    emit(DROP, 0);
                    expect(';');
                    break;
                case ADD:
                case REMOVE:
                    doToNamed(A_HEADER);
                    break;
                case CHECKSUM:
                    checksum();
                    break;
                case APPLY:
                case IF:
                    controlStatement(ifs);
                    break;
                default:
                    fail();
            }
        }

        private int placeToAssign() {
            if (isParameter(meaning())) {
                fail();
            }
            return place();
        }

        private void assign(int slot) {
            expect('=');
            sum(0);
            emit('=', slot);
            expect(';');
        }

        private void doToNamed(int base) {
            int what = kind;
            advance();
            emit(what, declared(base));
            expect(';');
        }

        private void checksum() {
            advance();
            int header = declared(A_HEADER);
            expect('.');
            int slot = fieldNamed(header);
            if (slot < 0 || !program.canHoldChecksum(slot)) {
                fail();
                return;
            }
            emit(CHECKSUM, slot);
            advance();
            expect(';');
        }

        private void controlStatement(int ifs) {
            if (!inControl || kind == IF && ifs >= DEPTH_LIMIT) {
                fail();
            } else if (kind == APPLY) {
                doToNamed(A_TABLE);
            } else {
                ifStatement(ifs + 1);
            }
        }

        private void ifStatement(int ifs) {
            advance();
            expect('(');
            test(0);
            expect(')');
            int overThen = emit(IF, 0);
            block(ifs);
            int overElse = -1;
            if (kind == ELSE) {
                overElse = emit(ELSE, 0);
            }
            program.leadToEnd(overThen);
            if (kind == ELSE) {
                advance();
                block(ifs);
                program.leadToEnd(overElse);
            }
        }

        private void test(int depth) {
            check(depth);
            int sign = kind;
            if (sign != AND && sign != OR) {
                return;
            }
            for (int i = 0; i < TAPE_LIMIT && kind == sign; i++) {
                advance();
                check(depth);
                emit(sign, 0);
            }
        }

        private void check(int depth) {
            if (kind == '!' || kind == '(') {
                nestedCheck(depth);
                return;
            }
            if (isValidity()) {
                emit(VALID, meaning() - A_HEADER);
                advance();
                advance();
                advance();
                return;
            }
            sum(0);
            int relation = kind;
            if (!isRelation(relation)) {
                fail();
            }
            advance();
            // In a check a bracket is a test's, never a sum's first.
            if (kind == '(') {
                fail();
            }
            sum(0);
            emit(relation, 0);
        }

        private void nestedCheck(int depth) {
            if (depth >= DEPTH_LIMIT) {
                fail();
            } else if (kind == '!') {
                advance();
                check(depth + 1);
                emit('!', 0);
            } else {
                advance();
                test(depth + 1);
                expect(')');
            }
        }

        /** Looks ahead, since a header's name may begin a sum as well. */
        private boolean isValidity() {
            return isOf(meaning(), A_HEADER) && at + 2 < tokens.size
                && tokens.kinds[at + 1] == '.' && tokens.kinds[at + 2] == VALID;
        }

        private void sum(int depth) {
            part(depth);
            for (int i = 0; i <= PART_LIMIT && isOperator(kind); i++) {
                int operator = kind;
                spendPart();
                advance();
                part(depth);
                emit(operator, 0);
            }
        }

        private void part(int depth) {
            if (kind == '(') {
                if (depth >= DEPTH_LIMIT) {
                    fail();
                    return;
                }
                advance();
                sum(depth + 1);
                expect(')');
                return;
            }
            spendPart();
            switch (kind) {
                case NUMBER:
                    emit(NUMBER, value);
                    advance();
                    break;
                case NAME:
                    emit(NAME, place());
                    break;
                case IN:
                    emit(NAME, IN_SLOT);
                    advance();
                    break;
                case OUT:
                    emit(NAME, OUT_SLOT);
                    advance();
                    break;
                case SIZE:
                    emit(NAME, SIZE_SLOT);
                    advance();
                    break;
                default:
                    fail();
            }
        }

        private void spendPart() {
            if (partCount >= PART_LIMIT) {
                fail();
            }
            partCount++;
        }

        /** The slot of the place that stands here. */
        private int place() {
            int meant = meaning();
            if (meant >= FIRST_META && meant < OUT_SLOT) {
                advance();
                return meant;
            }
            if (!isOf(meant, A_HEADER)) {
                fail();
                return 0;
            }
            advance();
            if (kind != '.') {
                fail();
            }
            advance();
            int slot = fieldNamed(meant - A_HEADER);
            if (slot < 0) {
                fail();
                return 0;
            }
            advance();
            return slot;
        }

        private int width() {
            if (kind != NUMBER || value < 1 || value > NUMBER_BITS) {
                fail();
                return 1;
            }
            int width = (int) value;
            advance();
            return width;
        }

        private void declare(int meant) {
            if (kind != NAME || nameCount >= DECLARATION_LIMIT || meaning() != UNKNOWN) {
                fail();
                return;
            }
            names[nameCount] = value;
            meanings[nameCount] = meant;
            nameCount++;
            advance();
        }

        /** The number of the header, action or table that is named here. */
        private int declared(int base) {
            int meant = meaning();
            if (!isOf(meant, base)) {
                fail();
                return 0;
            }
            advance();
            return meant - base;
        }

        /** What the name here means; a parameter hides all else. */
        private int meaning() {
            if (kind != NAME) {
                return UNKNOWN;
            }
            for (int i = 0; i < parameterCount; i++) {
                if (parameterNames[i] == value) {
                    return FIRST_PARAMETER + i;
                }
            }
            for (int i = 0; i < nameCount; i++) {
                if (names[i] == value) {
                    return meanings[i];
                }
            }
            return UNKNOWN;
        }

        private int fieldNamed(int header) {
            int first = header * FIELD_LIMIT;
            for (int slot = first; slot < first + program.fieldCounts[header]; slot++) {
                if (kind == NAME && fieldNames[slot] == value) {
                    return slot;
                }
            }
            return UNKNOWN;
        }

        private int emit(int what, long operand) {
            return program.append((long) what << NUMBER_BITS | operand);
        }

        private static boolean isOf(int meant, int base) {
            return meant >= base && meant < base + MEANING_ROOM;
        }

        private static boolean isParameter(int meant) {
            return meant >= FIRST_PARAMETER && meant < OUT_SLOT;
        }

        private static boolean isOperator(int sign) {
            return sign == '+' || sign == '-' || sign == '&' || sign == '|' || sign == '^'
                || sign == LEFT || sign == RIGHT;
        }

        private static boolean isRelation(int sign) {
            return sign == SAME || sign == OTHER || sign == '<' || sign == '>'
                || sign == AT_MOST || sign == AT_LEAST;
        }
    }

    /** What a text declares, what came of it since, and its statements as instructions. */
    private static final class Program {
        // A state has a target for each case, and behind them the one of its default or goto.
        static final int STATE_TARGETS = CASE_LIMIT + 1;
        static final int TARGET_COUNT = STATE_LIMIT * STATE_TARGETS;
        static final int TO_ACCEPT = -1, TO_REJECT = -2;

        private int headerCount;
        private final int[] fieldCounts = new int[HEADER_LIMIT];
        private final int[] headerBits = new int[HEADER_LIMIT];
        private int metaCount;
        private final int[] widths = new int[SLOT_COUNT];
        private int stateCount;
        private final State[] states = new State[STATE_LIMIT];
        private final int[] targets = new int[TARGET_COUNT];
        private int actionCount;
        private final Action[] actions = new Action[ACTION_LIMIT];
        private int tableCount;
        private final Table[] tables = new Table[TABLE_LIMIT];
        // An instruction is a token's kind and, in the low 48 bits, a number, a slot or the like.
        // Each comes from a byte of the text that no other one comes from: there is room for all.
        private final long[] code = new long[TAPE_LIMIT];
        private int codeLength;
        private int controlStart;
        private int nextEntry;
        private int packetCount;
        private int rejectedCount;

        Program() {
            for (int i = 0; i < STATE_LIMIT; i++) {
                states[i] = new State();
            }
            for (int i = 0; i < ACTION_LIMIT; i++) {
                actions[i] = new Action();
            }
            for (int i = 0; i < TABLE_LIMIT; i++) {
                tables[i] = new Table();
            }
        }

        void clear() {
            headerCount = 0;
            metaCount = 0;
            stateCount = 0;
            actionCount = 0;
            tableCount = 0;
            codeLength = 0;
            controlStart = 0;
            nextEntry = 0;
            packetCount = 0;
            rejectedCount = 0;
            Arrays.fill(fieldCounts, 0);
            Arrays.fill(headerBits, 0);
            Arrays.fill(targets, TO_REJECT);
            widths[OUT_SLOT] = 9;
            for (int i = 0; i < STATE_LIMIT; i++) {
                states[i].clear();
            }
            for (int i = 0; i < ACTION_LIMIT; i++) {
                actions[i].clear();
            }
            for (int i = 0; i < TABLE_LIMIT; i++) {
                tables[i].clear();
            }
        }

        int tally(int what) {
            switch (what) {
                case 0:
                    return headerCount;
                case 1:
                    return metaCount;
                case 2:
                    return stateCount;
                case 3:
                    return actionCount;
                case 4:
                    return tableCount;
                case 5:
                    return packetCount;
                default:
                    return rejectedCount;
            }
        }

        /** Where the instruction stands. */
        int append(long instruction) {
            if (codeLength < code.length) {
                code[codeLength] = instruction;
                codeLength++;
            }
            return codeLength - 1;
        }

        /** Gives a jump that was written before its target was known the end as it is now. */
        void leadToEnd(int jump) {
            if (jump >= 0) {
                code[jump] = code[jump] | codeLength;
            }
        }

        boolean canHoldChecksum(int slot) {
            int header = slot / FIELD_LIMIT;
            int bitsBefore = 0;
            for (int s = header * FIELD_LIMIT; s < slot; s++) {
                bitsBefore += widths[s];
            }
            return widths[slot] == 16 && bitsBefore % 16 == 0 && headerBits[header] % 16 == 0;
        }
    }

    /** How a packet is taken apart further; its targets stand in the program. */
    private static final class State {
        private int extractCount;
        private final int[] extracts = new int[EXTRACT_LIMIT];
        private int slot;
        private int caseCount;
        private final long[] numbers = new long[CASE_LIMIT];
        private final long[] masks = new long[CASE_LIMIT];

        void clear() {
            extractCount = 0;
            slot = 0;
            caseCount = 0;
        }

        /** Which of the state's targets is taken. */
        int choose(long[] slots) {
            for (int i = 0; i < caseCount; i++) {
                if (((slots[slot] ^ numbers[i]) & masks[i]) == 0) {
                    return i;
                }
            }
            return CASE_LIMIT;
        }
    }

    private static final class Action {
        private int start;
        private int parameterCount;
        private final int[] widths = new int[PARAMETER_LIMIT];

        void clear() {
            start = 0;
            parameterCount = 0;
        }
    }

    /** A table with its entries, the oldest first. */
    private static final class Table {
        private int keyCount;
        private final int[] keySlots = new int[KEY_LIMIT];
        private final int[] keyWidths = new int[KEY_LIMIT];
        private final int[] keyKinds = new int[KEY_LIMIT];
        private int prefixKey;
        private int actionCount;
        private final int[] actions = new int[TABLE_ACTION_LIMIT];
        private int defaultAction;
        private final long[] defaultArguments = new long[PARAMETER_LIMIT];
        private int defaultsDone;
        private int entryCount;
        private final Entry[] entries = new Entry[ENTRY_LIMIT];

        void clear() {
            keyCount = 0;
            prefixKey = -1;
            actionCount = 0;
            defaultAction = 0;
            defaultsDone = 0;
            entryCount = 0;
        }

        boolean hasAction(int index) {
            return index >= 0 && index < actionCount;
        }

        boolean offers(int action) {
            for (int i = 0; i < actionCount; i++) {
                if (actions[i] == action) {
                    return true;
                }
            }
            return false;
        }

        int indexOfEntry(int number) {
            for (int i = 0; i < entryCount; i++) {
                if (entries[i].number == number) {
                    return i;
                }
            }
            return -1;
        }

        void append(Entry entry) {
            if (entryCount < ENTRY_LIMIT) {
                entries[entryCount] = entry;
                entryCount++;
            }
        }

        void takeOut(int index) {
            if (index < 0 || index >= entryCount) {
                return;
            }
            for (int i = index; i + 1 < entryCount; i++) {
                entries[i] = entries[i + 1];
            }
            entryCount--;
        }

        boolean keysFit(Entry entry) {
            for (int k = 0; k < keyCount; k++) {
                if (!isBelow(entry.values[k], keyWidths[k]) || !maskFits(k, entry.masks[k])
                    || (entry.values[k] & ~bitsThatCount(k, entry.masks[k])) != 0) {
                    return false;
                }
            }
            return true;
        }

        private boolean maskFits(int k, long mask) {
            if (keyKinds[k] == LPM) {
                return mask >= 0 && mask <= keyWidths[k];
            }
            return keyKinds[k] == EXACT || isBelow(mask, keyWidths[k]);
        }

        /** The bits of a key that must be the same; for lpm the mask is how many, from the highest on. */
        private long bitsThatCount(int k, long mask) {
            if (keyKinds[k] == TERNARY) {
                return mask;
            }
            int ignored = keyKinds[k] == LPM ? keyWidths[k] - (int) mask : 0;
            return ones(keyWidths[k]) & ~ones(ignored);
        }

        boolean holdsTwin(Entry other, int priority) {
            for (int i = 0; i < entryCount; i++) {
                if (entries[i].priority == priority && sameKeys(entries[i], other)) {
                    return true;
                }
            }
            return false;
        }

        private boolean sameKeys(Entry one, Entry other) {
            for (int k = 0; k < keyCount; k++) {
                boolean sameMask = keyKinds[k] == EXACT || one.masks[k] == other.masks[k];
                if (one.values[k] != other.values[k] || !sameMask) {
                    return false;
                }
            }
            return true;
        }

        /** The entry whose action is to be done; null for the default. */
        Entry choose(long[] slots) {
            Entry best = null;
            for (int i = 0; i < entryCount; i++) {
                if (fitsSlots(entries[i], slots) && (best == null || isBetter(entries[i], best))) {
                    best = entries[i];
                }
            }
            return best;
        }

        private boolean fitsSlots(Entry entry, long[] slots) {
            for (int k = 0; k < keyCount; k++) {
                long different = slots[keySlots[k]] ^ entry.values[k];
                if ((different & bitsThatCount(k, entry.masks[k])) != 0) {
                    return false;
                }
            }
            return true;
        }

        private boolean isBetter(Entry entry, Entry best) {
            if (prefixKey >= 0 && entry.masks[prefixKey] != best.masks[prefixKey]) {
                return entry.masks[prefixKey] > best.masks[prefixKey];
            }
            return entry.priority > best.priority;
        }
    }

    private static final class Entry {
        private int number;
        private int action;
        private int priority;
        private int hits;
        private final long[] values = new long[KEY_LIMIT];
        private final long[] masks = new long[KEY_LIMIT];
        private final long[] arguments = new long[PARAMETER_LIMIT];

        void clear() {
            Arrays.fill(values, 0L);
            Arrays.fill(masks, 0L);
            Arrays.fill(arguments, 0L);
        }
    }

    /** Takes a packet through a program, and keeps what came out. */
    private static final class Machine {
        private static final int VISIT_LIMIT = 16;
        // Sums and tests are nested 6 deep each, with one value waiting at each level.
        private static final int STACK_ROOM = 32;
        // Jumps lead forward and actions apply no tables: no program comes near it.
        private static final int STEP_LIMIT = 1000000;
        private static final int HEADER_BYTES = HEADER_BITS_LIMIT / 8;

        private Program program;
        private byte[] bytes;
        private int size;
        private int taken;
        // The slots of a header that is not valid are 0 at all times.
        private final long[] slots = new long[SLOT_COUNT];
        private final boolean[] valid = new boolean[HEADER_LIMIT];
        private boolean dropped;
        private final long[] stack = new long[STACK_ROOM];
        private int stackSize;
        private final byte[] headerBytes = new byte[HEADER_BYTES];
        private final byte[] out = new byte[HEADER_LIMIT * HEADER_BYTES + PACKET_LIMIT];
        private int outLength;

        int run(Program with, byte[] packet, int length, int port) {
            program = with;
            bytes = packet;
            size = length;
            begin(port);
            program.packetCount++;
            if (!takeApart()) {
                program.rejectedCount++;
                return DROPPED;
            }
            doControl();
            if (dropped) {
                return DROPPED;
            }
            putTogether();
            return (int) slots[OUT_SLOT];
        }

        private void begin(int port) {
            taken = 0;
            outLength = 0;
            dropped = false;
            stackSize = 0;
            Arrays.fill(slots, 0L);
            slots[IN_SLOT] = port;
            slots[SIZE_SLOT] = size;
            for (int h = 0; h < HEADER_LIMIT; h++) {
                valid[h] = false;
            }
        }

        private boolean takeApart() {
            int at = 0;
            for (int visits = 0; visits < VISIT_LIMIT; visits++) {
                State state = program.states[at];
                for (int i = 0; i < state.extractCount; i++) {
                    if (!takeHeader(state.extracts[i])) {
                        return false;
                    }
                }
                int next = program.targets[at * Program.STATE_TARGETS + state.choose(slots)];
                if (next < 0) {
                    return next == Program.TO_ACCEPT;
                }
                at = next;
            }
            return false;
        }

        private boolean takeHeader(int header) {
            int end = taken + program.headerBits[header] / 8;
            if (end > size) {
                return false;
            }
            int bit = taken * 8;
            int first = header * FIELD_LIMIT;
            for (int slot = first; slot < first + program.fieldCounts[header]; slot++) {
                slots[slot] = bitsFrom(bit, program.widths[slot]);
                bit += program.widths[slot];
            }
            valid[header] = true;
            taken = end;
            return true;
        }

        private long bitsFrom(int first, int width) {
            long value = 0;
            for (int bit = first; bit < first + width; bit++) {
                value = value << 1 | (bytes[bit / 8] >> (7 - bit % 8) & 1);
            }
            return value;
        }

        private void doControl() {
            int at = program.controlStart;
            int back = -1;
            for (int steps = 0; steps < STEP_LIMIT && at < program.codeLength; steps++) {
                int what = (int) (program.code[at] >> NUMBER_BITS);
                long operand = program.code[at] & NUMBER_MASK;
                at++;
                switch (what) {
                    case END:
                        if (back < 0) {
                            return;
                        }
                        at = back;
                        back = -1;
                        break;
                    case APPLY:
                        back = at;
                        at = actionOf(program.tables[(int) operand]).start;
                        break;
                    case IF:
                        at = pop() == 0 ? (int) operand : at;
                        break;
                    case ELSE:
                        at = (int) operand;
                        break;
                    default:
                        step(what, operand);
                }
            }
        }

        /** The action that a table calls for, its arguments set. */
        private Action actionOf(Table table) {
            Entry entry = table.choose(slots);
            long[] arguments = table.defaultArguments;
            int number = table.defaultAction;
            if (entry == null) {
                table.defaultsDone++;
            } else {
                entry.hits++;
                arguments = entry.arguments;
                number = entry.action;
            }
            System.arraycopy(arguments, 0, slots, FIRST_PARAMETER, PARAMETER_LIMIT);
            return program.actions[number];
        }

        private void step(int what, long operand) {
            switch (what) {
                case NUMBER:
                    push(operand);
                    break;
                case NAME:
                    push(slots[(int) operand]);
                    break;
                case '=':
                    assign((int) operand, pop());
                    break;
                case DROP:
                    dropped = true;
                    break;
                case ADD:
                    valid[(int) operand] = true;
                    break;
                case REMOVE:
                    removeHeader((int) operand);
                    break;
                case CHECKSUM:
                    checksum((int) operand);
                    break;
                case VALID:
                    push(valid[(int) operand] ? 1 : 0);
                    break;
                case '!':
                    push(1 - pop());
                    break;
                default:
                    long right = pop();
                    push(join(what, pop(), right));
            }
        }

        private void assign(int slot, long value) {
            if (slot >= FIRST_META || valid[slot / FIELD_LIMIT]) {
                slots[slot] = value & ones(program.widths[slot]);
            }
        }

        private void removeHeader(int header) {
            valid[header] = false;
            for (int slot = header * FIELD_LIMIT; slot < (header + 1) * FIELD_LIMIT; slot++) {
                slots[slot] = 0;
            }
        }

        private void checksum(int slot) {
            int header = slot / FIELD_LIMIT;
            if (!valid[header]) {
                return;
            }
            slots[slot] = 0;
            int length = write(header, headerBytes, 0);
            int sum = 0;
            for (int i = 0; i + 1 < length; i += 2) {
                sum += (headerBytes[i] & 255) << 8 | headerBytes[i + 1] & 255;
                sum = (sum & 65535) + (sum >> 16);
            }
            slots[slot] = ~sum & 65535;
        }

        private static long join(int sign, long left, long right) {
            switch (sign) {
                case '+':
                    return left + right & NUMBER_MASK;
                case '-':
                    return left - right & NUMBER_MASK;
                case '^':
                    return left ^ right;
                case '&':
                case AND:
                    return left & right;
                case '|':
                case OR:
                    return left | right;
                case LEFT:
                    return right >= NUMBER_BITS ? 0 : left << right & NUMBER_MASK;
                case RIGHT:
                    return right >= NUMBER_BITS ? 0 : left >> right;
                default:
                    return holds(sign, left, right) ? 1 : 0;
            }
        }

        private static boolean holds(int relation, long left, long right) {
            switch (relation) {
                case SAME:
                    return left == right;
                case OTHER:
                    return left != right;
                case '<':
                    return left < right;
                case AT_MOST:
                    return left <= right;
                case '>':
                    return left > right;
                default:
                    return left >= right;
            }
        }

        private void push(long value) {
            if (stackSize < STACK_ROOM) {
                stack[stackSize] = value;
                stackSize++;
            }
        }

        private long pop() {
            if (stackSize == 0) {
                return 0;
            }
            stackSize--;
            return stack[stackSize];
        }

        private void putTogether() {
            for (int h = 0; h < program.headerCount; h++) {
                if (valid[h]) {
                    outLength = write(h, out, outLength);
                }
            }
            int rest = size - taken;
            System.arraycopy(bytes, taken, out, outLength, rest);
            outLength += rest;
        }

        /** Writes a header's bytes from a place on; answers the place behind them. */
        private int write(int header, byte[] into, int from) {
            int end = from + program.headerBits[header] / 8;
            for (int i = from; i < end; i++) {
                into[i] = 0;
            }
            int bit = from * 8;
            int first = header * FIELD_LIMIT;
            for (int slot = first; slot < first + program.fieldCounts[header]; slot++) {
                for (int left = program.widths[slot] - 1; left >= 0; left--) {
                    into[bit / 8] |= (byte) ((slots[slot] >> left & 1) << (7 - bit % 8));
                    bit++;
                }
            }
            return end;
        }
    }
}
