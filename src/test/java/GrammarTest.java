import java.util.Arrays;
import java.util.HashSet;
import java.util.Set;

/**
 * "Terms", PROGRAM: at the places of its forms all words and signs are tried, and names and numbers of
 * each sort. What can stand there leaves a text to which only something is missing, so that its fault is
 * its end; all else is the fault itself.
 */
public final class GrammarTest {
    private static final String WORDS = "header meta state extract goto select default accept reject action table key"
        + " actions exact lpm ternary control if else drop add remove apply checksum valid in out size";
    private static final String SIGNS = "{ } ; : , . ( ) / = == != < <= > >= + - & | ^ << >> && || !";
    private static final String OPS = "+ - & | ^ << >>";
    private static final String RELS = "== != < <= > >=";
    private static final String NUMBERS = "0 1 8 48 49 511 512 281474976710655";
    private static final String WIDTHS = "1 8 48";
    private static final String NAMES = "h e m f g u s a b w x p zz";

    // What DECLARED leaves: the names of its states, fields and parameters are free for other things.
    private static final String DECLARED = "header h { a 8 ; b 16 ; c 8 ; } header e { w 16 ; x 16 ; } meta m 9 ;"
        + " state s { goto accept ; } action f ( p 9 , q 4 ) { } action g ( ) { }"
        + " table u { key m exact ; actions g ; default g ( ) ; }";
    private static final String FREE = "s a b w x p zz";
    private static final String DECLARATIONS = "header meta state action table";
    private static final String PARTS = "h e m in out size " + NUMBERS;
    private static final String STATEMENTS = "h e m out drop add remove checksum";
    private static final String CHECKS = "! ( " + PARTS;
    // Behind a token with which the text is whole: nothing is missing then.
    private static final String LAST = "#";

    public static void main(String[] args) {
        programs();
        headers();
        metas();
        states();
        selects();
        actions();
        statements();
        sums();
        keys();
        defaults();
        controls();
        tests();
        relations();
        ifs();
        Expect.finish();
    }

    /** Of all tokens these, and no others, can stand behind a text; the text alone is not whole. */
    private static void behind(String text, String stand) {
        Texts.faultAt(text.length(), text);
        tryAll(text, stand);
    }

    private static void tryAll(String text, String stand) {
        Set<String> can = new HashSet<>(Arrays.asList(stand.split(" ")));
        String before = text.isEmpty() ? "" : text + " ";
        for (String token : (WORDS + " " + SIGNS + " " + NAMES + " " + NUMBERS).split(" ")) {
            String longer = before + token;
            if (can.contains(token + LAST)) {
                Texts.fine(longer);
            } else {
                Texts.faultAt(can.contains(token) ? longer.length() : before.length(), longer);
            }
        }
    }

    private static String without(String tokens, String one) {
        return (" " + tokens + " ").replace(" " + one + " ", " ").trim();
    }

    private static void programs() {
        Expect.sentence("PROGRAM: { HEADER | META | STATE | ACTION | TABLE } CONTROL");
        behind("", DECLARATIONS);
        behind("header h { a 8 ; }", DECLARATIONS);
        behind("meta m 8 ;", DECLARATIONS);
        behind("action f ( ) { }", DECLARATIONS);
        behind("meta m 8 ; action f ( ) { } table u { key m exact ; actions f ; default f ( ) ; }", DECLARATIONS);
        behind("state s { goto accept ; }", DECLARATIONS + " control");
        behind(DECLARED, DECLARATIONS + " control");
        Expect.sentence("CONTROL: control {{ { STATEMENT } }}, and nothing more");
        Texts.fine(DECLARED + " control { }");
        tryAll(DECLARED + " control { }", "");
        Texts.fine(DECLARED + " control { drop ; }");
        tryAll(DECLARED + " control { drop ; }", "");
    }

    private static void headers() {
        Expect.sentence("HEADER: header name {{ { name NUMBER ; } }}");
        behind("header", NAMES);
        behind(DECLARED + " header", FREE);
        String header = DECLARED + " header zz";
        behind(header, "{");
        behind(header + " {", NAMES);
        behind(header + " { a", WIDTHS);
        behind(header + " { a 8", ";");
        behind(header + " { a 8 ;", without(NAMES, "a") + " }");
        behind(header + " { a 7 ;", without(NAMES, "a"));
        behind(header + " { a 7 ; h 1 ;", without(without(NAMES, "a"), "h") + " }");
        behind(header + " { a 8 ; }", DECLARATIONS + " control");
    }

    private static void metas() {
        Expect.sentence("META: meta name NUMBER ; : a variable of 1 to 48 bits");
        behind("meta", NAMES);
        behind(DECLARED + " meta", FREE);
        behind(DECLARED + " meta zz", WIDTHS);
        behind(DECLARED + " meta zz 8", ";");
        behind(DECLARED + " meta zz 8 ;", DECLARATIONS + " control");
    }

    private static void states() {
        Expect.sentence("STATE: state name {{ { extract name ; } NEXT }}");
        behind("state", NAMES);
        behind(DECLARED + " state", without(NAMES, "s"));
        String state = DECLARED + " state zz";
        behind(state, "{");
        behind(state + " {", "extract goto select");
        behind(state + " { extract", "h e");
        behind(state + " { extract h", ";");
        behind(state + " { extract h ;", "extract goto select");
        behind(state + " { extract h ; extract h ; extract e ;", "goto select");
        Expect.sentence("goto TARGET ; TARGET: a state's name, accept or reject");
        behind(state + " { goto", NAMES + " accept reject");
        for (String target : (NAMES + " accept reject").split(" ")) {
            behind(state + " { goto " + target, ";");
        }
        behind(state + " { goto s ;", "}");
        behind(state + " { goto s ; }", DECLARATIONS + " control");
    }

    private static void selects() {
        Expect.sentence("select PLACE {{ { NUMBER [/ NUMBER] : TARGET ; } [default : TARGET ;] }}");
        String select = DECLARED + " state zz { select";
        behind(select, "h e m");
        behind(select + " h", ".");
        behind(select + " h .", "a b");
        behind(select + " e .", "w x");
        behind(select + " h . a", "{");
        behind(select + " m", "{");
        behind(select + " m {", NUMBERS + " default }");
        behind(select + " m { 1", "/ :");
        behind(select + " m { 1 /", NUMBERS);
        behind(select + " m { 1 / 2", ":");
        behind(select + " m { 1 :", NAMES + " accept reject");
        behind(select + " m { 1 / 2 :", NAMES + " accept reject");
        behind(select + " m { 1 : s", ";");
        behind(select + " m { 1 / 2 : accept", ";");
        behind(select + " m { 1 : s ;", NUMBERS + " default }");
        behind(select + " m { " + Texts.times(8, "# : s ; ").trim(), "default }");
        behind(select + " m { default", ":");
        behind(select + " m { default :", NAMES + " accept reject");
        behind(select + " m { default : reject", ";");
        behind(select + " m { default : reject ;", "}");
        behind(select + " m { 1 : s ; default : zz ;", "}");
        behind(select + " m { }", "}");
        behind(select + " m { } }", DECLARATIONS + " control");
    }

    private static void actions() {
        Expect.sentence("ACTION: action name ( [name NUMBER { , name NUMBER }] ) {{ { STATEMENT } }}");
        behind("action", NAMES);
        behind(DECLARED + " action", FREE);
        String action = DECLARED + " action zz";
        behind(action, "(");
        behind(action + " (", NAMES + " )");
        behind(action + " ( a", WIDTHS);
        behind(action + " ( a 8", ", )");
        behind(action + " ( a 8 ,", without(NAMES, "a"));
        behind(action + " ( a 8 , h", WIDTHS);
        behind(action + " ( a 8 , h 8 ,", without(without(NAMES, "a"), "h"));
        behind(action + " ( a 8 , h 8 , m 8", ", )");
        behind(action + " ( a 8 , h 8 , m 8 ,", "");
        behind(action + " ( )", "{");
        behind(action + " ( a 8 )", "{");
        behind(action + " ( ) {", STATEMENTS + " }");
        // Neither the parameters nor what they hide.
        behind(action + " ( a 8 , h 8 ) {", without(STATEMENTS, "h") + " }");
        behind(action + " ( a 8 , m 8 ) {", without(STATEMENTS, "m") + " }");
        behind(action + " ( a 8 , h 8 ) { m =", PARTS + " a (");
        behind(action + " ( a 8 , h 8 ) { m = h", OPS + " ;");
        behind(action + " ( a 8 , h 8 ) { add", "e");
        behind(action + " ( a 8 , h 8 ) { drop ; }", DECLARATIONS + " control");
        behind(action + " ( ) { }", DECLARATIONS + " control");
    }

    private static void statements() {
        statementsIn(DECLARED + " action zz ( ) {", STATEMENTS + " }");
        statementsIn(DECLARED + " control {", STATEMENTS + " apply if }" + LAST);
    }

    private static void statementsIn(String open, String next) {
        Expect.sentence("STATEMENT: PLACE = SUM ; or out = SUM ;");
        behind(open, next);
        behind(open + " m", "=");
        behind(open + " h", ".");
        behind(open + " h .", "a b");
        behind(open + " h . a", "=");
        behind(open + " h . a =", PARTS + " (");
        behind(open + " out", "=");
        behind(open + " out =", PARTS + " (");
        behind(open + " out = 1 ;", next);
        Expect.sentence("or drop ; or add name ; or remove name ; (headers)");
        behind(open + " drop", ";");
        behind(open + " drop ;", next);
        for (String word : new String[] {"add", "remove"}) {
            behind(open + " " + word, "h e");
            behind(open + " " + word + " h", ";");
            behind(open + " " + word + " h ;", next);
        }
        Expect.sentence("or checksum name . name ;");
        behind(open + " checksum", "h e");
        behind(open + " checksum e", ".");
        behind(open + " checksum e .", "w x");
        behind(open + " checksum h .", "");
        behind(open + " checksum e . w", ";");
        behind(open + " checksum e . w ;", next);
    }

    private static void sums() {
        Expect.sentence("SUM: PART { OP PART }; PART: NUMBER, PLACE, in, out, size or ( SUM )");
        String sum = DECLARED + " control { out =";
        behind(sum, PARTS + " (");
        for (String part : ("m in out size " + NUMBERS).split(" ")) {
            behind(sum + " " + part, OPS + " ;");
            behind(sum + " ( " + part, OPS + " )");
        }
        behind(sum + " h", ".");
        behind(sum + " h .", "a b");
        behind(sum + " h . a", OPS + " ;");
        Expect.sentence("OP: + - & | ^ << >>");
        for (String sign : OPS.split(" ")) {
            behind(sum + " 1 " + sign, PARTS + " (");
            behind(sum + " 1 " + sign + " 2", OPS + " ;");
        }
        behind(sum + " (", PARTS + " (");
        behind(sum + " ( 1 )", OPS + " ;");
        behind(sum + " ( ( 1 )", OPS + " )");
        behind(sum + " ( ( ( ( ( (", PARTS);
        behind(sum + " ( ( ( ( ( ( 1 ) + ", PARTS + " (");
    }

    private static void keys() {
        Expect.sentence("TABLE: table name {{ key PLACE KIND { , PLACE KIND } ;");
        behind(DECLARED + " table", FREE);
        String table = DECLARED + " table zz";
        behind(table, "{");
        behind(table + " {", "key");
        behind(table + " { key", "h e m");
        behind(table + " { key h", ".");
        behind(table + " { key h .", "a b");
        Expect.sentence("KIND: exact, lpm (in one key at most) or ternary");
        behind(table + " { key h . a", "exact lpm ternary");
        behind(table + " { key m", "exact lpm ternary");
        for (String kind : new String[] {"exact", "lpm", "ternary"}) {
            behind(table + " { key m " + kind, ", ;");
            behind(table + " { key m " + kind + " ,", "h e m");
            behind(table + " { key m " + kind + " , m", kind.equals("lpm") ? "exact ternary" : "exact lpm ternary");
        }
        behind(table + " { key m exact , m exact , m exact", ", ;");
        behind(table + " { key m exact , m exact , m exact ,", "");
        behind(table + " { key m exact ;", "actions");
    }

    private static void defaults() {
        Expect.sentence("actions name { , name } ; default name ( [NUMBER { , NUMBER }] ) ; }}");
        String table = DECLARED + " table zz { key m exact ;";
        behind(table + " actions", "f g");
        behind(table + " actions f", ", ;");
        behind(table + " actions f ,", "g");
        behind(table + " actions f , g", ", ;");
        behind(table + " actions f , g ,", "");
        behind(table + " actions f ;", "default");
        behind(table + " actions f ; default", "f");
        behind(table + " actions f , g ; default", "f g");
        String none = table + " actions g ; default g";
        behind(none, "(");
        behind(none + " (", ")");
        behind(none + " ( )", ";");
        behind(none + " ( ) ;", "}");
        behind(none + " ( ) ; }", DECLARATIONS + " control");
        Expect.sentence("behind the last one only ) can stand");
        String two = table + " actions f ; default f";
        behind(two + " (", "0 1 8 48 49 511");
        behind(two + " ( 1", ",");
        behind(two + " ( 1 ,", "0 1 8");
        behind(two + " ( 1 , 2", ")");
        behind(two + " ( 1 , 2 )", ";");
    }

    private static void controls() {
        Expect.sentence("in the control also apply name ;");
        behind(DECLARED + " control", "{");
        behind(DECLARED + " control { apply", "u");
        behind(DECLARED + " control { apply u", ";");
        behind(DECLARED + " control { apply u ;", STATEMENTS + " apply if }" + LAST);
    }

    private static void tests() {
        Expect.sentence("TEST: CHECK { && CHECK } or CHECK { || CHECK }");
        String test = DECLARED + " control { if (";
        behind(test, CHECKS);
        behind(test + " h . valid", "&& || )");
        for (String sign : new String[] {"&&", "||"}) {
            behind(test + " h . valid " + sign, CHECKS);
            behind(test + " h . valid " + sign + " e . valid", sign + " )");
            behind(test + " h . valid " + sign + " m < 1", OPS + " " + sign + " )");
            behind(test + " ( h . valid " + sign + " e . valid ) ", "&& || )");
            behind(test + " ! h . valid " + sign + " ! e . valid ", sign + " )");
        }
        behind(test + " ( h . valid || e . valid ) && e . valid", "&& )");
        Expect.sentence("CHECK: ! CHECK, ( TEST ), name . valid (a header)");
        behind(test + " !", CHECKS);
        behind(test + " ! h . valid", "&& || )");
        behind(test + " (", CHECKS);
        behind(test + " ( h . valid", "&& || )");
        behind(test + " ( h . valid )", "&& || )");
        behind(test + " ( ! ( ! ( !", PARTS);
        behind(test + " h", ".");
        behind(test + " h .", "a b valid");
        behind(test + " e .", "w x valid");
    }

    private static void relations() {
        Expect.sentence("SUM REL SUM, where a SUM does not begin with (; REL: == != < <= > >=");
        String test = DECLARED + " control { if (";
        for (String part : ("m in out size " + NUMBERS).split(" ")) {
            behind(test + " " + part, OPS + " " + RELS);
            behind(test + " 1 < " + part, OPS + " && || )");
        }
        behind(test + " h . a", OPS + " " + RELS);
        behind(test + " m +", PARTS + " (");
        behind(test + " m + ( 1", OPS + " )");
        behind(test + " m + ( 1 )", OPS + " " + RELS);
        for (String relation : RELS.split(" ")) {
            behind(test + " m " + relation, PARTS);
            behind(test + " m " + relation + " h .", "a b");
            behind(test + " m " + relation + " h . a", OPS + " && || )");
            behind(test + " m " + relation + " 1 +", PARTS + " (");
            behind(test + " ( m " + relation + " 1", OPS + " && || )");
        }
    }

    private static void ifs() {
        Expect.sentence("if ( TEST ) {{ { STATEMENT } }} [else {{ { STATEMENT } }}]");
        String inside = STATEMENTS + " apply if }";
        String outside = inside + LAST;
        String open = DECLARED + " control { if";
        behind(open, "(");
        behind(open + " ( h . valid )", "{");
        behind(open + " ( h . valid ) {", inside);
        behind(open + " ( h . valid ) { drop ;", inside);
        behind(open + " ( h . valid ) { }", outside + " else");
        behind(open + " ( h . valid ) { } drop ;", outside);
        behind(open + " ( h . valid ) { } else", "{");
        behind(open + " ( h . valid ) { } else {", inside);
        behind(open + " ( h . valid ) { } else { }", outside);
        behind(open + " ( h . valid ) { if ( m == 1 ) { }", inside + " else");
        behind(open + " ( h . valid ) { if ( m == 1 ) { } }", outside + " else");
        behind(open + " ( h . valid ) { if ( m == 1 ) { } else { } }", outside + " else");
        behind(DECLARED + " control {" + Texts.times(6, " if ( m == # ) {"), without(inside, "if"));
        behind(DECLARED + " control {" + Texts.times(5, " if ( m == # ) {"), inside);
    }
}
