import java.util.Arrays;

/** "Terms", TOKENS: for each sentence the last text that is allowed, and the first that is not. */
public final class TokenEdgesTest {
    private static final String TAIL = "state s{goto accept;}control{}";
    private static final String START = "header h{a 8;}meta m 9;state s{goto accept;}control{";
    private static final String[] WORDS = ("header meta state extract goto select default accept reject action table"
        + " key actions exact lpm ternary control if else drop add remove apply checksum valid in out size").split(" ");

    public static void main(String[] args) {
        signsTakeAllTheyCan();
        namesAndNumbersTakeAllTheyCan();
        bytesBetween();
        firstByteOfName();
        laterBytesOfName();
        lengthOfName();
        numbers();
        signs();
        words();
        Expect.finish();
    }

    private static boolean isBetween(char c) {
        return c == ' ' || c == '\n';
    }

    private static boolean isSmallLetter(char c) {
        return c >= 'a' && c <= 'z';
    }

    private static boolean isDigit(char c) {
        return c >= '0' && c <= '9';
    }

    private static void bad(String statements) {
        Texts.fault(START + statements + "}");
    }

    private static void good(String statements) {
        Texts.fine(START + statements + "}");
    }

    private static void signsTakeAllTheyCan() {
        Expect.sentence("each as long as can be (signs)");
        good("if(1<=2){}if(1>=2){}if(1==2){}if(1!=2){}m=1<<2>>3;if(1<2&&1<2){}if(1>2||1>2){}");
        bad("if(1< @=2){}");
        bad("if(1> @=2){}");
        bad("if(1@= =2){}");
        bad("if(1@! =2){}");
        bad("m=1@< <2;");
        bad("m=1@> >2;");
        bad("if(1<2& @&1<2){}");
        bad("if(1<2| @|1<2){}");
        bad("if(1<<@=2){}");
        bad("if(1>>@=2){}");
        bad("if(1==@=2){}");
        bad("if(1!=@=2){}");
        bad("if(1<=@=2){}");
        bad("if(1>=@=2){}");
        bad("m=1<<@<2;");
        bad("m=1>>@>2;");
        bad("if(1<2&&@&1<2){}");
        bad("if(1<2||@|1<2){}");
        bad("m@==1;");
        bad("m= @=1;");
        bad("m=1@<=2;");
        bad("m=1@&&2;");
        bad("m=1@||2;");
        bad("if(!@!=1){}");
        good("if(!!h.valid&&!!h.valid){}");
        good("if(1<2&1&&2>1|1){}");
    }

    private static void namesAndNumbersTakeAllTheyCan() {
        Expect.sentence("each as long as can be (names and numbers)");
        Texts.fine("meta m1 8;meta m1x 8;meta m 8;meta headerx 8;meta xheader 8;" + TAIL);
        Texts.fault("@metam 8;" + TAIL);
        Texts.fault("meta m8@;" + TAIL);
        Texts.fault("@meta8 8;" + TAIL);
        Texts.fault("meta m @88;" + TAIL);
        Texts.fault("meta m 8 @8;" + TAIL);
        Texts.fault("meta m 8@m;" + TAIL);
        Texts.fault("meta m 8@_;" + TAIL);
        Texts.fault("meta @8m 8;" + TAIL);
        Texts.fine("meta m 8;state s{select m{1:s;2:accept;}}control{out=1+m+in+out+size;}");
        Texts.fault("state s{@goto1;}control{}");
        Texts.fault("state s{@gotos;}control{}");
        Texts.fault("state s{goto accept;}@control1{}");
    }

    private static void bytesBetween() {
        Expect.sentence("with blanks (32) and byte 10 between where one likes");
        for (char c = 0; c < 256; c++) {
            String text = "meta m 8" + c + ";" + TAIL;
            if (isBetween(c)) {
                Texts.fine(text);
            } else if (isDigit(c)) {
                Texts.faultAt(7, text);
            } else {
                Texts.faultAt(c == ';' ? 9 : 8, text);
            }
        }
        String spread = " \n header h { a 8 ; } \n meta m 9 ; state s { extract h ; select h . a { 1 / 3 : accept ; } } "
            + "action f ( p 1 , q 2 ) { } table t { key m exact ; actions f ; default f ( 1 , 2 ) ; } "
            + "control { if ( ! h . valid && 1 <= 2 ) { m = ( 1 ) + h . a ; } else { drop ; } } \n ";
        Texts.fine(spread);
        Texts.fine(spread.replace(' ', '\n'));
        Texts.fine(spread.replace(" ", " \n \n"));
        Texts.fine("header h{a 8;}meta m 9;state s{extract h;select h.a{1/3:accept;}}action f(p 1,q 2){}"
            + "table t{key m exact;actions f;default f(1,2);}control{if(!h.valid&&1<=2){m=(1)+h.a;}else{drop;}}");
    }

    private static void firstByteOfName() {
        Expect.sentence("NAME: a small letter");
        for (char c = 0; c < 256; c++) {
            String text = "meta " + c + "m 8;" + TAIL;
            if (isSmallLetter(c) || isBetween(c)) {
                Texts.fine(text);
            } else {
                Texts.faultAt(5, text);
            }
        }
    }

    private static void laterBytesOfName() {
        Expect.sentence("then small letters, digits and _");
        for (char c = 0; c < 256; c++) {
            boolean stands = isSmallLetter(c) || isDigit(c) || c == '_';
            String last = "meta m" + c + " 8;" + TAIL;
            String middle = "meta m" + c + "m 8;" + TAIL;
            if (stands || isBetween(c)) {
                Texts.fine(last);
            } else {
                Texts.faultAt(6, last);
            }
            if (stands) {
                Texts.fine(middle);
            } else {
                Texts.faultAt(isBetween(c) ? 7 : 6, middle);
            }
        }
    }

    private static void lengthOfName() {
        Expect.sentence("8 signs at most");
        for (int length = 1; length <= 8; length++) {
            Texts.fine("meta " + Texts.times(length, "m") + " 8;" + TAIL);
        }
        Texts.fault("meta @mmmmmmmmm 8;" + TAIL);
        Texts.fault("meta @m12345678 8;" + TAIL);
        Texts.fault("meta @m_______8 8;" + TAIL);
        Texts.fault("meta @" + Texts.times(500, "m") + " 8;" + TAIL);
        String[] texts = {
            "header N{a 8;}" + TAIL, "header h{N 8;}" + TAIL, "state N{goto accept;}control{}",
            "state s{goto N;}state N{goto accept;}control{}",
            "action N(){}" + TAIL, "action f(N 8){}" + TAIL,
            "meta m 8;action f(){}table N{key m exact;actions f;default f();}" + TAIL,
        };
        for (String text : texts) {
            Texts.fine(text.replace("N", "abcdefgh"));
            Texts.faultAt(text.indexOf('N'), text.replace("N", "abcdefghi"));
        }
        Expect.sentence("8 signs at most: all of them count");
        Texts.fine("meta abcdefgh 8;meta abcdefgi 8;meta bbcdefgh 8;meta abcdefg 8;" + TAIL);
        Texts.fault("meta abcdefgh 8;meta @abcdefgh 8;" + TAIL);
    }

    private static void number(String digits, boolean isOne) {
        String before = "meta m 48;state s{select m{";
        String text = before + digits + ":accept;}}control{}";
        if (isOne) {
            Texts.fine(text);
        } else {
            Texts.faultAt(before.length(), text);
        }
    }

    private static void numbers() {
        Expect.sentence("NUMBER: digits, below 2^48");
        number("0", true);
        number("00", true);
        number("281474976710655", true);
        number("281474976710656", false);
        number("281474976710657", false);
        number("281474976710660", false);
        number("999999999999999", false);
        number("1000000000000000", false);
        number("4294967296", true);
        number("9223372036854775807", false);
        number("9223372036854775808", false);
        number("18446744073709551615", false);
        number("18446744073709551616", false);
        number("18446744073709551617", false);
        number("28147497671065600000000000000000000000000", false);
        number(Texts.times(900, "0") + "281474976710655", true);
        number(Texts.times(900, "0") + "281474976710656", false);
        Texts.fine("state s{goto accept;}control{out=281474976710655;}");
        Texts.fault("state s{goto accept;}control{out=@281474976710656;}");
        Texts.fault("state s{goto accept;}control{out=1 @1;}");
        Texts.fault("state s{goto accept;}control{out=1@.1;}");
        Texts.fault("state s{goto accept;}control{out=1@_1;}");
        Texts.fault("state s{goto accept;}control{out=0@x1;}");
    }

    private static void signs() {
        Expect.sentence("the signs, and no other");
        for (char c = 0; c < 256; c++) {
            boolean stands = isBetween(c) || c == '+' || c == '-' || c == '&' || c == '|' || c == '^';
            String before = START + "m=1";
            String text = before + c + "m;}";
            if (stands && !isBetween(c)) {
                Texts.fine(text);
            } else if (isDigit(c)) {
                Texts.faultAt(before.length() + 1, text);
            } else {
                Texts.faultAt(before.length() + (isBetween(c) ? 1 : 0) + behindSemicolon(c), text);
            }
        }
    }

    /** Behind a ; the name can stand as the next statement's: the fault is the ; behind it. */
    private static int behindSemicolon(char c) {
        return c == ';' ? 2 : 0;
    }

    private static void words() {
        Expect.sentence("WORDS that are no names");
        Expect.same("how many", 28, WORDS.length);
        for (String word : WORDS) {
            Texts.fault("meta @" + word + " 8;" + TAIL);
            Texts.fault("header @" + word + "{a 8;}" + TAIL);
            Texts.fault("header h{@" + word + " 8;}" + TAIL);
            Texts.fault("action @" + word + "(){}" + TAIL);
            Texts.fault("action f(@" + word + " 8){}" + TAIL);
            Texts.fault("state @" + word + "{goto accept;}control{}");
            Texts.fault("meta m 8;action f(){}table @" + word + "{key m exact;actions f;default f();}" + TAIL);
            isName(word.substring(1));
            isName(word.substring(0, word.length() - 1));
            isName("x" + word);
            isName(word + "x");
            isName(word + "_");
            isName(word + "0");
            Texts.fault("meta @" + word.toUpperCase() + " 8;" + TAIL);
        }
    }

    /** Unless it is another of the words; one of more than 8 signs is no name. */
    private static void isName(String signs) {
        if (signs.length() > 8) {
            Texts.fault("meta @" + signs + " 8;" + TAIL);
        } else if (!Arrays.asList(WORDS).contains(signs)) {
            Texts.fine("meta " + signs + " 8;" + TAIL);
        }
    }
}
