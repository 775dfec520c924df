/** "Terms", PROGRAM: the limits of what is declared, the last that is allowed and the first that is not. */
public final class DeclarationEdgesTest {
    private static final String END = Texts.STATE + "control{}";
    private static final String TABLE = "{key m exact;actions f;default f();}";
    private static final long TWO_48 = 1L << 48;

    public static void main(String[] args) {
        widths();
        fields();
        headerBits();
        headers();
        metas();
        extracts();
        cases();
        states();
        parameters();
        parametersAreKnownInTheirActionAlone();
        actions();
        keys();
        prefixKeys();
        tableActions();
        defaultIsOneOfThem();
        numbersOfDefault();
        rangeOfDefault();
        tables();
        allAtOnce();
        control();
        declaredBefore();
        differentNames();
        hidingNames();
        Expect.finish();
    }

    private static void width(String before, String behind) {
        Texts.fine(before + 1 + behind);
        Texts.fine(before + 8 + behind);
        Texts.fine(before + 47 + behind);
        Texts.fine(before + 48 + behind);
        Texts.fault(before + "@0" + behind);
        Texts.fault(before + "@49" + behind);
        Texts.fault(before + "@64" + behind);
        // A width whose lowest 32 bits would be one.
        Texts.fault(before + "@4294967304" + behind);
        Texts.fault(before + "@281474976710655" + behind);
        Texts.fault(before + "@" + behind);
        Texts.fault(before + "@m" + behind);
        Texts.fault(before + "@-1" + behind);
    }

    private static void widths() {
        Expect.sentence("FIELDS with their WIDTHS, 1 to 48 bits");
        for (int bits = 1; bits <= 48; bits++) {
            Texts.fine("header h{a " + bits + ";b " + (8 - bits % 8) + ";}" + END);
        }
        for (String wrong : new String[] {"0", "49", "64", "4294967304", "281474976710655", "", "a", "-1"}) {
            Texts.fault("header h{a @" + wrong + ";}" + END);
            Texts.fault("header h{a 8;b @" + wrong + ";}" + END);
        }
        Expect.sentence("META: a variable of 1 to 48 bits");
        width("meta m ", ";" + END);
        Expect.sentence("PARAMETERS with their widths");
        width("action f(p ", "){}" + END);
        width("action f(p 8,q ", "){}" + END);
        width("action f(p 8,q 8,r ", "){}" + END);
    }

    private static void fields() {
        Expect.sentence("1 to 8 fields");
        Texts.fault("header h{@}" + END);
        for (int count = 1; count <= 8; count++) {
            Texts.fine("header h{" + Texts.times(count, "a# 8;") + "}" + END);
        }
        Texts.fault("header h{" + Texts.times(8, "a# 8;") + "@a8 8;}" + END);
        Texts.fault("header g{" + Texts.times(8, "a# 8;") + "}header h{" + Texts.times(8, "a# 8;") + "@a8 8;}" + END);
        // The field is the fault, not the bits that the header would have.
        Texts.fault("header h{" + Texts.times(8, "a# 48;") + "@a8 1;}" + END);
    }

    /** A header of so many bits, in fields as wide as can be. */
    private static String fieldsOf(int bits) {
        return Texts.times(bits / 48, "a# 48;") + (bits % 48 == 0 ? "" : "b " + bits % 48 + ";");
    }

    private static void headerBits() {
        Expect.sentence("together a multiple of 8 bits, at most 160");
        for (int bits = 1; bits <= 8 * 48; bits++) {
            String start = "header h{" + fieldsOf(bits);
            if (bits % 8 == 0 && bits <= 160) {
                Texts.fine(start + "}" + END);
            } else {
                Texts.faultAt(start.length(), start + "}" + END);
            }
        }
        Texts.fine("header h{" + Texts.times(8, "a# 20;") + "}" + END);
        Texts.fault("header h{" + Texts.times(8, "a# 21;") + "@}" + END);
        Texts.fine("header h{" + Texts.times(8, "a# 1;") + "}" + END);
        Texts.fault("header h{" + Texts.times(7, "a# 1;") + "@}" + END);
        Texts.fine("header g{" + fieldsOf(160) + "}header h{" + fieldsOf(160) + "}" + END);
        Texts.fault("header g{" + fieldsOf(4) + "@}header h{" + fieldsOf(4) + "}" + END);
    }

    private static void headers() {
        Expect.sentence("at most 6 headers");
        Texts.atMost(6, "", "header h#{a 8;}", END);
        Texts.fault(Texts.times(6, "header h#{a 8;}") + "meta m 8;@header h6{a 8;}" + END);
    }

    private static void metas() {
        Expect.sentence("META: at most 6");
        Texts.atMost(6, "", "meta m# 8;", END);
        Texts.fault(Texts.times(6, "meta m# 8;") + "header h{a 8;}@meta m6 8;" + END);
    }

    private static void extracts() {
        Expect.sentence("at most 3 extracts, of headers");
        String before = "header h{a 8;}header g{a 8;}meta m 8;state s{";
        Texts.atMost(3, before, "extract h;", "goto accept;}control{}");
        Texts.atMost(3, before, "extract g;", "select m{}}control{}");
        Texts.fine(before + Texts.times(3, "extract h;") + "goto t;}state t{" + Texts.times(3, "extract h;")
            + "goto accept;}control{}");
        Texts.fault(before + "goto accept;}state t{" + Texts.times(3, "extract h;") + "@extract h;goto accept;}control{}");
        Texts.fault(before + "extract @m;goto accept;}control{}");
        Texts.fault(before + "extract @k;goto accept;}control{}");
        Texts.fault(before + "extract @s;goto accept;}control{}");
        Texts.fault(before + "extract h@.a;goto accept;}control{}");
    }

    private static void cases() {
        Expect.sentence("at most 8 cases");
        String before = "meta m 8;state s{select m{";
        Texts.atMost(8, before, "#:accept;", "}}control{}");
        Texts.atMost(8, before, "#/3:s;", "default:reject;}}control{}");
        Texts.atMost(8, before, "7:s;", "}}control{}");
        Texts.fine(before + Texts.times(8, "#:t;") + "}}state t{select m{" + Texts.times(8, "#:s;") + "}}control{}");
        Texts.fault(before + "}}state t{select m{" + Texts.times(8, "#:s;") + "@8:s;}}control{}");
        Texts.fault(before + "default:accept;@1:s;}}control{}");
        Texts.fault(before + "default:accept;@default:s;}}control{}");
    }

    private static void states() {
        Expect.sentence("1 to 8 states");
        Texts.fault("@control{}");
        Texts.fault("header h{a 8;}meta m 8;action f(){}@control{}");
        for (int count = 1; count <= 8; count++) {
            Texts.fine(Texts.times(count, "state s#{goto s0;}") + "control{}");
        }
        Texts.fault(Texts.times(8, "state s#{goto s0;}") + "@state s8{goto s0;}control{}");
        Texts.fine(Texts.times(8, "state s#{goto s7;}") + "control{}");
    }

    private static void parameters() {
        Expect.sentence("at most 3 PARAMETERS");
        String before = "action f(";
        Texts.fine(before + "){}" + END);
        Texts.fine(before + "p 8){}" + END);
        Texts.fine(before + "p 8,q 8){}" + END);
        Texts.fine(before + "p 8,q 8,r 8){}" + END);
        Texts.fault(before + "p 8,q 8,r 8,@t 8){}" + END);
        Texts.fault(before + "p 8,q 8,r 8,@){}" + END);
        Texts.fault(before + "p 8,q 8,r 8,@8){}" + END);
        Texts.fault(before + "p 8,q 8,@){}" + END);
        Texts.fault(before + "@,p 8){}" + END);
        Texts.fault(before + "p 8@;){}" + END);
        Texts.fine(before + "p 8,q 8,r 8){}action g(p 8,q 8,r 8){}" + END);
    }

    private static void parametersAreKnownInTheirActionAlone() {
        Expect.sentence("which are known in it alone");
        String before = "meta m 8;action f(p 8){m=p;}";
        Texts.fine(before + "action g(p 8){m=p;}" + END);
        Texts.fault(before + "action g(){m=@p;}" + END);
        Texts.fault(before + "action g(q 8){m=@p;}" + END);
        Texts.fault(before + Texts.STATE + "control{m=@p;}");
        Texts.fault(before + Texts.STATE + "control{@p=m;}");
        Texts.fault(before + "state s{select @p{}}control{}");
        Texts.fault(before + "table t{key @p exact;actions f;default f(1);}" + END);
    }

    private static void actions() {
        Expect.sentence("at most 8 actions");
        Texts.atMost(8, "", "action f#(){}", END);
        Texts.atMost(8, "", "action f#(p 8,q 8,r 8){out=p;}", END);
    }

    private static void keys() {
        Expect.sentence("1 to 3 keys");
        String before = "header h{a 8;}meta m 8;action f(){}table t{";
        String behind = ";actions f;default f();}" + END;
        Texts.fault(before + "key @" + behind);
        Texts.fault(before + "@" + behind.substring(1));
        Texts.fine(before + "key m exact" + behind);
        Texts.fine(before + "key m exact,h.a ternary" + behind);
        Texts.fine(before + "key m exact,h.a ternary,m lpm" + behind);
        Texts.fault(before + "key m exact,h.a ternary,m lpm,@m exact" + behind);
        Texts.fault(before + "key m exact,h.a ternary,m lpm,@h.a exact" + behind);
        Texts.fault(before + "key m exact,h.a ternary,m lpm,@" + behind);
        Texts.fault(before + "key m exact,@" + behind);
        Texts.fine(before + "key h.a exact,h.a exact,h.a exact" + behind);
        Texts.fault(before + "key m exact;@key m exact" + behind);
        Texts.fault(before + "key @in exact" + behind);
        Texts.fault(before + "key @out exact" + behind);
        Texts.fault(before + "key @size exact" + behind);
        Texts.fault(before + "key @8 exact" + behind);
    }

    private static void prefixKeys() {
        Expect.sentence("lpm (in one key at most)");
        String before = "meta m 8;action f(){}table t{key ";
        String behind = ";actions f;default f();}" + END;
        String[] kinds = {"exact", "lpm", "ternary"};
        for (String one : kinds) {
            for (String two : kinds) {
                for (String three : kinds) {
                    threeKeys(before, one, two, three, behind);
                }
            }
        }
        Texts.fault(before + "m lpm,m @lpm,m lpm" + behind);
        // Each table may have one.
        Texts.fine(before + "m lpm" + behind.replace(END, "table u{key m exact,m lpm" + behind));
    }

    private static void threeKeys(String before, String one, String two, String three, String behind) {
        String first = before + "m " + one + ",m ";
        String second = first + two + ",m ";
        boolean twoFails = two.equals("lpm") && one.equals("lpm");
        boolean threeFails = three.equals("lpm") && (one.equals("lpm") || two.equals("lpm"));
        String text = second + three + behind;
        if (twoFails) {
            Texts.faultAt(first.length(), text);
        } else if (threeFails) {
            Texts.faultAt(second.length(), text);
        } else {
            Texts.fine(text);
        }
    }

    private static void tableActions() {
        Expect.sentence("1 to 4 different actions");
        String before = "meta m 8;" + Texts.times(5, "action f#(){}") + "table t{key m exact;actions ";
        String behind = ";default f0();}" + END;
        Texts.fault(before + "@" + behind);
        Texts.fine(before + "f0" + behind);
        Texts.fine(before + "f1,f0" + behind);
        Texts.fine(before + "f2,f1,f0" + behind);
        Texts.fine(before + "f3,f2,f1,f0" + behind);
        Texts.fault(before + "f3,f2,f1,f0,@f4" + behind);
        Texts.fault(before + "f3,f2,f1,f0,@" + behind);
        Texts.fault(before + "f0,@f0" + behind);
        Texts.fault(before + "f0,f1,@f0" + behind);
        Texts.fault(before + "f0,f1,f2,@f2" + behind);
        Texts.fault(before + "f0,f1,f2,@f0" + behind);
        Texts.fault(before + "f0,@m" + behind);
        Texts.fault(before + "f0,@t" + behind);
        Texts.fault(before + "f0,@f5" + behind);
        Texts.fault(before + "f0,@s" + behind);
        Texts.fault(before + "f0@(),f1" + behind);
    }

    private static void defaultIsOneOfThem() {
        Expect.sentence("of which the default is one");
        String before = "meta m 8;" + Texts.times(5, "action f#(){}") + "table t{key m exact;actions f0,f1,f2,f3;default ";
        for (int action = 0; action < 4; action++) {
            Texts.fine(before + "f" + action + "();}" + END);
        }
        Texts.fault(before + "@f4();}" + END);
        Texts.fault(before + "@f5();}" + END);
        Texts.fault(before + "@m();}" + END);
        Texts.fault(before + "@();}" + END);
        Texts.fault("meta m 8;action f(){}action g(){}table t{key m exact;actions f;default f();}"
            + "table u{key m exact;actions g;default @f();}" + END);
    }

    private static void numbersOfDefault() {
        Expect.sentence("with as many NUMBERS as parameters");
        String[] parameters = {"", "p 8", "p 8,q 8", "p 8,q 8,r 8"};
        for (int has = 0; has <= 3; has++) {
            String before = "meta m 8;action f(" + parameters[has] + "){}table t{key m exact;actions f;default f(";
            for (int given = 0; given <= 5; given++) {
                String numbers = Texts.times(given, "1,");
                String text = before + numbers.replaceFirst(",$", "") + ");}" + END;
                if (given == has) {
                    Texts.fine(text);
                } else if (given < has) {
                    // The ) stands where a , or a NUMBER is due.
                    Texts.faultAt(before.length() + Math.max(0, 2 * given - 1), text);
                } else {
                    // Behind the last one only ) can stand.
                    Texts.faultAt(before.length() + Math.max(0, 2 * has - 1), text);
                }
            }
            Texts.faultAt(before.length() + Math.max(0, 2 * has - 1),
                before + Texts.times(has, "1,").replaceFirst(",$", "") + ",);}" + END);
        }
    }

    private static void rangeOfDefault() {
        Expect.sentence("each below 2 to its parameter's width, else it is the FAULT");
        for (int width = 1; width <= 48; width++) {
            long above = 1L << width;
            String before = "meta m 8;action f(p " + width + ",q 1,r " + width + "){}table t{key m exact;actions f;default f(";
            Texts.fine(before + "0,0,0);}" + END);
            Texts.fine(before + (above - 1) + ",1," + (above - 1) + ");}" + END);
            Texts.fault(before + "@" + above + ",1,0);}" + END);
            Texts.fault(before + "0,@2,0);}" + END);
            Texts.fault(before + "0,1,@" + above + ");}" + END);
            Texts.fault(before + "@" + above + ",2," + above + ");}" + END);
        }
        Texts.fault("meta m 8;action f(p 48){}table t{key m exact;actions f;default f(@" + TWO_48 + ");}" + END);
    }

    private static void tables() {
        Expect.sentence("at most 4 tables");
        Texts.atMost(4, "meta m 8;action f(){}", "table t#" + TABLE, END);
    }

    private static void allAtOnce() {
        Expect.sentence("as much of everything as there may be");
        String all = Texts.times(6, "header h#{" + "a 48;b 48;c 48;d 4;e 4;f 4;g 2;h 2;}") + Texts.times(6, "meta m# 48;")
            + Texts.times(8, "state s#{extract h0;extract h1;extract h2;goto s7;}")
            + Texts.times(8, "action f#(p 48,q 48,r 48){}")
            + Texts.times(4, "table t#{key m0 exact,m1 lpm,h5.h ternary;actions f0,f1,f2,f7;default f7(1,2,3);}");
        Texts.fine(all + "control{}");
        Texts.fault(all + "@header h6{a 8;}control{}");
        Texts.fault(all + "@meta m6 8;control{}");
        Texts.fault(all + "@state s8{goto s0;}control{}");
        Texts.fault(all + "@action f8(){}control{}");
        Texts.fault(all + "@table t4{key m0 exact;actions f0;default f0(1,2,3);}control{}");
    }

    private static void control() {
        Expect.sentence("CONTROL: control {{ { STATEMENT } }}, and nothing more");
        Texts.fine(END);
        Texts.fine(END + " \n ");
        Texts.fault(Texts.STATE + "@");
        for (String more : new String[] {"control{}", "meta m 8;", "header h{a 8;}", "state t{goto s;}", "x", "1", ";", "}", "$"}) {
            Texts.fault(END + "@" + more);
            Texts.fault(END + " \n@" + more);
        }
    }

    private static void declaredBefore() {
        Expect.sentence("What is named must have been declared before, but states");
        Texts.fine("header h{a 8;}state s{extract h;goto accept;}control{}");
        Texts.fault("state s{extract @h;goto accept;}header h{a 8;}control{}");
        Texts.fault("state s{select @h.a{}}header h{a 8;}control{}");
        Texts.fault("state s{select @m{}}meta m 8;control{}");
        Texts.fault("action f(){@m=1;}meta m 8;" + END);
        Texts.fault("action f(){add @h;}header h{a 8;}" + END);
        Texts.fault("action f(){}table t{key @m exact;actions f;default f();}meta m 8;" + END);
        Texts.fault("meta m 8;table t{key m exact;actions @f;default f();}action f(){}" + END);
        Texts.fault("header h{a 8;}action f(){h.@b=1;}header g{b 8;}" + END);
        Texts.fine("state s{goto t;}state t{goto u;}state u{goto s;}control{}");
        Texts.fine("meta m 8;state s{select m{1:t;default:t;}}state t{goto accept;}control{}");
    }

    private static void differentNames() {
        Expect.sentence("Names of headers, metas, actions and tables are all different");
        String before = "meta m 8;action f(){}";
        String[] kinds = {"header N{a 8;}", "meta N 8;", "action N(){}", "table N" + TABLE};
        for (String one : kinds) {
            for (String other : kinds) {
                String first = before + one.replace("N", "n");
                Texts.fault(first + other.replace("N", "@n") + END);
                Texts.fine(first + other.replace("N", "o") + END);
            }
        }
        Expect.sentence("those of states are different from each other");
        Texts.fault("state s{goto accept;}state @s{goto accept;}control{}");
        Texts.fault(Texts.times(7, "state s#{goto accept;}") + "state @s0{goto accept;}control{}");
        for (String kind : kinds) {
            Texts.fine(before + kind.replace("N", "s") + END);
            Texts.fine(before + Texts.STATE + kind.replace("N", "s") + "control{}");
        }
        Expect.sentence("those of the fields of a header, and of parameters, too");
        Texts.fault("header h{a 8;@a 8;}" + END);
        Texts.fault("header h{" + Texts.times(7, "a# 8;") + "@a0 8;}" + END);
        Texts.fine("header h{a 8;h 8;}header g{a 8;h 8;}" + END);
        Texts.fine("header h{m 8;f 8;s 8;}" + before + END);
        Texts.fault("action f(p 8,@p 8){}" + END);
        Texts.fault("action f(p 8,q 8,@p 8){}" + END);
        Texts.fault("action f(p 8,q 8,@q 8){}" + END);
    }

    private static void hidingNames() {
        Expect.sentence("a parameter's may be that of something else, which it hides");
        String before = "header h{a 8;}meta m 8;action e(q 8){}table t{key m exact;actions e;default e(1);}" + Texts.STATE;
        for (String name : new String[] {"h", "a", "m", "e", "q", "t", "s", "f"}) {
            Texts.fine(before + "action f(" + name + " 8){out=" + name + ";}control{}");
            Texts.fault(before + "action f(" + name + " 8){@" + name + "=1;}control{}");
        }
        Texts.fine(before + "action f(a 8){h.a=a;}control{}");
        Texts.fine(before + "action f(m 8,h 8){out=m+h;}control{m=h.a;h.a=m;}");
        Texts.fine(before + "action f(m 8){}action g(){m=1;}control{}");
        Texts.fault(before + "action f(h 8){out=h@.a;}control{}");
        Texts.fault(before + "action f(h 8){add @h;}control{}");
        Texts.fault(before + "action f(h 8){remove @h;}control{}");
    }
}
