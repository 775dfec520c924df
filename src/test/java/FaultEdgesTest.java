/** "Terms", FAULT: each of its cases, at every place of a text where that can be done. */
public final class FaultEdgesTest {
    private static final String[] TOKENS = ("header h { a 8 ; b 16 ; c 8 ; } header e { w 16 ; x 16 ; } meta m 9 ;"
        + " state s { extract h ; select h . a { 1 : t ; 2 / 6 : accept ; default : reject ; } }"
        + " state t { extract e ; extract e ; goto s ; } action f ( p 9 , q 4 ) { out = p ; h . c = q + ( m << 2 ) ; }"
        + " action g ( ) { drop ; } table u { key h . a exact , m lpm , e . w ternary ; actions f , g ; default f ( 1 , 2 ) ; }"
        + " control { if ( h . valid && ! ( m == 1 || size >= in ) ) { apply u ; checksum e . x ; }"
        + " else { add h ; remove e ; } out = ( out - 1 ) ^ h . b ; }").split(" ");

    public static void main(String[] args) {
        somethingIsMissing();
        beginsNoToken();
        tooLongOrTooGreat();
        canNotStandThere();
        theFirstOfTwo();
        tooMuch();
        outOfRange();
        unknown();
        declaredAlready();
        bracesOfHeaders();
        noState();
        targets();
        Expect.finish();
    }

    private static String joined(int from, int to) {
        StringBuilder text = new StringBuilder();
        for (int i = from; i < to; i++) {
            text.append(TOKENS[i]).append(' ');
        }
        return text.toString();
    }

    private static void somethingIsMissing() {
        Expect.sentence("or of the end if something is missing");
        for (int count = 0; count < TOKENS.length; count++) {
            String text = joined(0, count);
            Texts.faultAt(text.length(), text);
            Texts.faultAt(text.trim().length(), text.trim());
            Texts.faultAt(text.length() + 3, text + " \n ");
        }
        Texts.fine(joined(0, TOKENS.length));
    }

    private static void beginsNoToken() {
        Expect.sentence("of the first byte that begins no token");
        for (int i = 0; i <= TOKENS.length; i++) {
            String before = joined(0, i);
            Texts.faultAt(before.length(), before + "$ " + joined(i, TOKENS.length));
            Texts.faultAt(before.length(), before + "\u00ff" + joined(i, TOKENS.length));
            Texts.faultAt(before.length(), before + "_a " + joined(i, TOKENS.length));
            Texts.faultAt(before.length(), before + "\t" + joined(i, TOKENS.length));
        }
    }

    private static void tooLongOrTooGreat() {
        Expect.sentence("(a name or a number that is too long, too great: its first byte)");
        for (int i = 0; i <= TOKENS.length; i++) {
            String before = joined(0, i);
            Texts.faultAt(before.length(), before + "abcdefghi " + joined(i, TOKENS.length));
            Texts.faultAt(before.length(), before + "281474976710656 " + joined(i, TOKENS.length));
        }
    }

    private static void canNotStandThere() {
        Expect.sentence("the place of the first token that can not stand there");
        // Each of these can stand where it does, and nowhere else: there the second one is the fault.
        for (String word : new String[] {"key", "actions", "valid", "else"}) {
            for (int i = 0; i <= TOKENS.length; i++) {
                String before = joined(0, i);
                boolean stands = i < TOKENS.length && TOKENS[i].equals(word);
                int place = before.length() + (stands ? word.length() + 1 : 0);
                Texts.faultAt(place, before + word + " " + joined(i, TOKENS.length));
            }
        }
    }

    private static void theFirstOfTwo() {
        Expect.sentence("the place of the first token, of the first byte");
        for (int i = 0; i < TOKENS.length; i += 3) {
            String before = joined(0, i);
            for (int j = i; j < TOKENS.length && !TOKENS[i].equals("else"); j += 40) {
                Texts.faultAt(before.length(), before + "$ " + joined(i, j) + "else " + joined(j, TOKENS.length));
                Texts.faultAt(before.length(), before + "else " + joined(i, j) + "$ " + joined(j, TOKENS.length));
            }
        }
    }

    private static void tooMuch() {
        Expect.sentence("for one that is too much: its own, also behind a ,");
        String end = Texts.STATE + "control{}";
        String actions = Texts.times(5, "action f#(){}");
        Texts.fault("action f(p 8,q 8,r 8 , @t 8){}" + end);
        Texts.fault("meta m 8;" + actions + "table t{key m exact,m exact,m exact , @m exact;actions f0;default f0();}" + end);
        Texts.fault("meta m 8;" + actions + "table t{key m exact;actions f0,f1,f2,f3 , @f4;default f0();}" + end);
        Texts.fault("header h{" + Texts.times(8, "a# 8;") + " @a8 8;}" + end);
        Texts.fault("header h{a 8;}state s{" + Texts.times(3, "extract h;") + " @extract h;goto accept;}control{}");
        Texts.fault("meta m 8;state s{select m{" + Texts.times(8, "#:s;") + " @8:s;}}control{}");
    }

    private static void outOfRange() {
        Expect.sentence("out of range: its own, also behind a ,");
        String end = Texts.STATE + "control{}";
        Texts.fault("header h{a  @49;}" + end);
        Texts.fault("meta m  @0;" + end);
        Texts.fault("action f(p 8, q  @49){}" + end);
        Texts.fault("meta m 8;action f(p 8,q 3){}table t{key m exact;actions f;default f( @256,8);}" + end);
        Texts.fault("meta m 8;action f(p 8,q 3){}table t{key m exact;actions f;default f(255, @8);}" + end);
    }

    private static void unknown() {
        Expect.sentence("unknown: its own, also behind a ,");
        String end = Texts.STATE + "control{}";
        Texts.fault("state s{extract @h;goto accept;}control{}");
        Texts.fault("header h{a 8;}state s{select h.@b{}}control{}");
        Texts.fault("meta m 8;action f(){}table t{key m exact, @n exact;actions f;default f();}" + end);
        Texts.fault("meta m 8;action f(){}table t{key m exact;actions f, @g;default f();}" + end);
        Texts.fault("meta m 8;action f(){}table t{key m exact;actions f;default @g();}" + end);
        Texts.fault("meta m 8;" + Texts.STATE + "control{m=1+@n;}");
        Texts.fault("meta m 8;" + Texts.STATE + "control{apply @t;}");
    }

    private static void declaredAlready() {
        Expect.sentence("declared already: its own, also behind a ,");
        String end = Texts.STATE + "control{}";
        Texts.fault("header h{a 8; @a 8;}" + end);
        Texts.fault("meta m 8;meta @m 8;" + end);
        Texts.fault("action f(p 8, @p 8){}" + end);
        Texts.fault("meta m 8;action f(){}table t{key m exact;actions f, @f;default f();}" + end);
        Texts.fault("state s{goto accept;}state @s{goto accept;}control{}");
    }

    private static void bracesOfHeaders() {
        Expect.sentence("for a header whose bits are no multiple of 8 or more than 160, or without fields: that of its }}");
        String end = Texts.STATE + "control{}";
        Texts.fault("header h{ @}" + end);
        Texts.fault("header h{a 1; @}" + end);
        Texts.fault("header h{a 48;b 48;c 48;d 17; @}" + end);
        Texts.fault("header h{a 48;b 48;c 48;d 24; @}" + end);
        // What can not stand there before it comes first, what comes behind it later.
        Texts.fault("header h{a 1; @;}" + end);
        Texts.fault("header h{a 1; @a 8;}" + end);
        Texts.fault("header h{a 1;@");
        Texts.fault("header h{a 1; @}header h{}" + end);
    }

    private static void noState() {
        Expect.sentence("for no state: that of control");
        Texts.fault("@control{}");
        Texts.fault("  @control{}");
        Texts.fault("@control");
        Texts.fault("@control{$");
        Texts.fault("@control x");
        Texts.fault("header h{a 8;}meta m 8; @control{m=1;}");
        Texts.fault("header h{a 8;}@");
    }

    private static void targets() {
        Expect.sentence("for a target that is no state: its own, the first, if there is no other fault");
        Texts.fault("state s{goto @t;}control{}");
        Texts.fault("state s{goto @t;}state u{goto v;}control{}");
        Texts.fault("state s{goto u;}state u{goto @v;}state w{goto x;}control{}");
        Texts.fault("meta m 8;state s{select m{1:s;2:@t;3:u;default:v;}}control{}");
        Texts.fault("meta m 8;state s{select m{1:s;2/3:@t;default:s;}}state u{goto v;}control{}");
        Texts.fault("meta m 8;state s{select m{1:s;default:@v;}}state u{select m{1:w;}}control{}");
        Texts.fault("meta m 8;state s{select m{1:s;8:@h7;}}control{}");
        Texts.fault("header h{a 8;}meta m 8;action f(){}state s{goto @h;}control{}");
        Texts.fault("header h{a 8;}meta m 8;action f(){}state s{goto @m;}control{}");
        Texts.fault("header h{a 8;}meta m 8;action f(){}state s{goto @f;}control{}");
        Texts.fine("state s{goto t;}state t{goto accept;}control{}");
        Texts.fine(Texts.times(8, "state s#{goto s7;}") + "control{}");
        for (String other : new String[] {"@$", "@}", "@control{}", "@x", "@1"}) {
            Texts.fault("state s{goto t;}control{}" + other);
            Texts.fault("state s{goto t;}control{" + (other.equals("@}") ? "@;" : other) + "}");
        }
        Texts.fault("state s{goto t;}control{@");
        Texts.fault("state s{goto t;}@");
        Texts.fault("state s{goto t;}header h{@}control{}");
        Texts.fault("state s{goto t;}state @s{goto accept;}control{}");
        // One that can be no target at all can not stand there.
        Texts.fault("state s{goto t;}state u{goto @1;}control{}");
        Texts.fault("state s{goto t;}state u{goto @control;}control{}");
    }
}
