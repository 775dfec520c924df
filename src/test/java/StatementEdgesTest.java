/** "Terms", PROGRAM: the limits of statements, sums and tests, the last that is allowed and the first that is not. */
public final class StatementEdgesTest {
    private static final String HEADS = "header h{a 8;b 16;c 8;}meta m 9;";
    private static final String START = HEADS + Texts.STATE + "control{";

    public static void main(String[] args) {
        places();
        assignments();
        headersOfStatements();
        checksums();
        controlAlone();
        ifs();
        sumBrackets();
        checksOfTests();
        sumsOfTests();
        testSigns();
        testDepth();
        statementCount();
        partCount();
        longTexts();
        Expect.finish();
    }

    private static void bad(String statements) {
        Texts.fault(START + statements + "}");
    }

    private static void good(String statements) {
        Texts.fine(START + statements + "}");
    }

    private static void places() {
        Expect.sentence("PLACE: name . name (a field) or name (a meta, or a parameter)");
        good("h.a=h.b;m=m;");
        bad("h@=1;");
        bad("h.@=1;");
        bad("h.@d=1;");
        bad("h.@h=1;");
        bad("h.@8=1;");
        bad("h.a@.a=1;");
        bad("m@.a=1;");
        bad("@a=1;");
        bad("@s=1;");
        bad("m=h@;");
        bad("m=h.@d;");
        bad("m=m@.a;");
        bad("m=@a;");
        bad("m=@s;");
        Texts.fine(HEADS + "action f(p 8){m=p;}" + Texts.STATE + "control{}");
        Texts.fault(HEADS + "action f(p 8){m=p@.a;}" + Texts.STATE + "control{}");
        Texts.fault(HEADS + "action f(p 8){m=@f;}" + Texts.STATE + "control{}");
    }

    private static void assignments() {
        Expect.sentence("PLACE = SUM ; or out = SUM ;");
        good("out=out;");
        bad("@in=1;");
        bad("@size=1;");
        bad("@1=1;");
        bad("out@;");
        bad("out=@;");
        bad("out=1@}");
        Expect.sentence("To a parameter nothing is assigned");
        Texts.fine(HEADS + "action f(p 8){m=p;h.a=p;out=p;}" + Texts.STATE + "control{}");
        Texts.fault(HEADS + "action f(p 8){@p=1;}" + Texts.STATE + "control{}");
        Texts.fault(HEADS + "action f(p 8,q 8,r 8){m=p;@r=q;}" + Texts.STATE + "control{}");
    }

    private static void headersOfStatements() {
        Expect.sentence("add name ; or remove name ; (headers)");
        for (String word : new String[] {"add ", "remove "}) {
            good(word + "h;");
            bad(word + "@m;");
            bad(word + "@s;");
            bad(word + "@x;");
            bad(word + "@;");
            bad(word + "h@.a;");
            bad(word + "h@}");
        }
    }

    private static void checksum(String fields, boolean stands) {
        String before = "header h{" + fields + "}" + Texts.STATE + "control{checksum h.";
        if (stands) {
            Texts.fine(before + "x;}");
        } else {
            Texts.faultAt(before.length(), before + "x;}");
        }
    }

    private static void checksums() {
        Expect.sentence("a field of 16 bits");
        for (int width = 1; width <= 32; width++) {
            checksum("x " + width + ";y " + (48 - width) + ";", width == 16);
        }
        Expect.sentence("that begins at a multiple of 16");
        for (int offset = 1; offset <= 48; offset++) {
            checksum("w " + offset + ";x 16;y " + (offset == 48 ? 48 : 48 - offset) + ";", offset % 16 == 0);
        }
        checksum("x 16;", true);
        checksum("a 48;b 48;c 48;x 16;", true);
        checksum("a 48;b 48;c 32;x 16;d 16;", true);
        checksum("a 48;b 48;c 40;x 16;d 8;", false);
        checksum("a 5;b 11;x 16;", true);
        Expect.sentence("in a header of a multiple of 16 bits");
        for (int bits = 8; bits <= 48; bits += 8) {
            checksum("x 16;y " + bits + ";", bits % 16 == 0);
            checksum("w 48;x 16;y " + bits + ";", bits % 16 == 0);
        }
        Texts.fault("header h{x 16;}meta m 16;" + Texts.STATE + "control{checksum @m;}");
        Texts.fault("header h{x 16;}" + Texts.STATE + "control{checksum h.@y;}");
        Texts.fault("header h{x 16;}" + Texts.STATE + "control{checksum @g.x;}");
        Texts.fault("header h{x 16;}" + Texts.STATE + "control{checksum h@;}");
    }

    private static void controlAlone() {
        Expect.sentence("in the control also apply name ; and if");
        String start = HEADS + "action f(){}table t{key m exact;actions f;default f();}";
        Texts.fine(start + Texts.STATE + "control{apply t;if(1<2){apply t;}else{apply t;}}");
        Texts.fault(start + "action g(){@apply t;}" + Texts.STATE + "control{}");
        Texts.fault(start + "action g(){@if(1<2){}}" + Texts.STATE + "control{}");
        Texts.fault(start + "action g(){drop;@if(1<2){}}" + Texts.STATE + "control{}");
        Texts.fault(start + Texts.STATE + "control{apply @f;}");
        Texts.fault(start + Texts.STATE + "control{apply @u;}");
        Texts.fault(start + Texts.STATE + "control{apply t@(;}");
        Texts.fault(start + Texts.STATE + "control{@else{}}");
        Texts.fault(start + Texts.STATE + "control{if(1<2){}else{}@else{}}");
        Texts.fault(start + Texts.STATE + "control{if(1<2){}else @if(1<2){}}");
    }

    private static void ifs() {
        Expect.sentence("ifs at most 6 deep");
        String[] openings = {"if(1<2){", "if(1<2){}else{", "drop;if(1<2){drop;", "if(1<2){if(1<2){}"};
        for (int deep = 1; deep <= 6; deep++) {
            good(Texts.times(deep, openings[0]) + "drop;" + Texts.times(deep, "}"));
            good(Texts.times(deep, openings[1]) + "drop;" + Texts.times(deep, "}"));
            good(Texts.times(deep, openings[2]) + "drop;" + Texts.times(deep, "}"));
        }
        bad(Texts.times(6, openings[0]) + "@if(1<2){}" + Texts.times(6, "}"));
        bad(Texts.times(6, openings[1]) + "@if(1<2){}" + Texts.times(6, "}"));
        bad(Texts.times(6, openings[2]) + "@if(1<2){}" + Texts.times(6, "}"));
        bad(Texts.times(5, openings[3]) + "if(1<2){@if(1<2){}}" + Texts.times(5, "}"));
        bad(Texts.times(3, openings[0] + openings[1]) + "@if(1<2){}" + Texts.times(6, "}"));
        good(Texts.times(5, openings[3]) + "if(1<2){}else{}" + Texts.times(5, "}"));
        // Those that are closed do not count.
        good(Texts.times(6, openings[0]) + Texts.times(6, "}") + Texts.times(6, openings[0]) + Texts.times(6, "}"));
        good(Texts.times(10, "if(1<2){}"));
        good(Texts.times(5, openings[0]) + Texts.times(8, "if(1<2){}") + Texts.times(5, "}"));
    }

    private static void sumBrackets() {
        Expect.sentence("brackets at most 6 deep");
        for (int deep = 0; deep <= 6; deep++) {
            good("m=" + Texts.times(deep, "(") + "1" + Texts.times(deep, ")") + ";");
            good("m=" + Texts.times(deep, "1+(") + "1" + Texts.times(deep, ")+1") + ";");
            good("if(1+" + Texts.times(deep, "(") + "1" + Texts.times(deep, ")") + "<2){}");
        }
        bad("m=((((((@(1)))))));");
        bad("m=" + Texts.times(6, "1+(") + "1+@(1)" + Texts.times(6, ")") + ";");
        bad("m=((((((1))))))+((((((@(1)))))));");
        good("m=((((((1))))))+((((((1))))));");
        good("m=((((((1))))));out=((((((1))))));");
        bad("out=((((((@(1)))))));");
        bad("if(1+((((((@(1)))))))<2){}");
        bad("if(1<1+((((((@(1))))))){}");
        // Each sum has brackets of its own, those of tests are others.
        good("if(1+((((((1))))))<1+((((((1))))))){}");
        good("if(" + "((((((1+((((((1))))))<1))))))" + "){}");
        bad("m=(1@;");
        bad("m=1@);");
        bad("m=(@);");
        bad("m=((1)@;");
    }

    private static void checksOfTests() {
        Expect.sentence("CHECK: ! CHECK, ( TEST ), name . valid (a header), or SUM REL SUM");
        good("if(h.valid){}");
        good("if(!h.valid){}");
        good("if((h.valid)){}");
        good("if(1==2){}if(1!=2){}if(1<2){}if(1<=2){}if(1>2){}if(1>=2){}");
        good("if(h.a<m){}if(in<out){}if(size<1+2+3){}");
        bad("if(@){}");
        bad("if(!@){}");
        bad("if((@)){}");
        bad("if(1@){}");
        bad("if(1<@){}");
        bad("if(1@=2){}");
        bad("if(1<2@<3){}");
        bad("if(h@){}");
        bad("if(h.@){}");
        bad("if(h.a@){}");
        bad("if(m@.valid){}");
        bad("if(@x.valid){}");
        bad("if(@s.valid){}");
        bad("if(h.valid@==1){}");
        bad("if(1==h.@valid){}");
        bad("if(@valid){}");
    }

    private static void sumsOfTests() {
        Expect.sentence("where a SUM does not begin with (");
        good("if(1+(2)<3+(4)){}");
        bad("if((1@)<3){}");
        bad("if((1+2@)<3){}");
        bad("if((m@)==3){}");
        bad("if((1<2)@==3){}");
        bad("if(1<@(3)){}");
        bad("if(1<@(3)+4){}");
        bad("if(!(1@)<3){}");
        bad("if(1<2&&(1@)<2){}");
        good("if((1<2)){}");
        good("if((1+(2)<3)){}");
    }

    private static void testSigns() {
        Expect.sentence("TEST: CHECK { && CHECK } or CHECK { || CHECK }");
        good("if(1<2&&1<2&&1<2&&1<2){}");
        good("if(1<2||1<2||1<2||1<2){}");
        bad("if(1<2&&1<2@||1<2){}");
        bad("if(1<2||1<2@&&1<2){}");
        bad("if(1<2&&1<2&&1<2@||1<2){}");
        bad("if(1<2||1<2||1<2@&&1<2){}");
        good("if(1<2&&(1<2||1<2)&&1<2){}");
        good("if((1<2||1<2)&&(1<2||1<2)){}");
        good("if(1<2||(1<2&&1<2)||1<2){}");
        bad("if((1<2||1<2@&&1<2)&&1<2){}");
        bad("if(1<2&&(1<2||1<2)@||1<2){}");
        bad("if(1<2&&@&&1<2){}");
        bad("if(1<2&&@){}");
        bad("if(@&&1<2){}");
    }

    private static void testDepth() {
        Expect.sentence("! and brackets of tests at most 6 deep");
        // Each of the 2 to the 6 ways to go 6 deep, then one more of each.
        for (int way = 0; way < 64; way++) {
            StringBuilder open = new StringBuilder("if(");
            StringBuilder close = new StringBuilder();
            for (int level = 0; level < 6; level++) {
                boolean bracket = (way >> level & 1) == 1;
                open.append(bracket ? "(" : "!");
                close.append(bracket ? ")" : "");
            }
            good(open + "h.valid" + close + "){}");
            good(open + "1<2" + close + "){}");
            bad(open + "@!h.valid" + close + "){}");
            bad(open + "@(h.valid)" + close + "){}");
        }
        for (int deep = 0; deep < 6; deep++) {
            good("if(" + Texts.times(deep, "!") + "h.valid){}");
            good("if(" + Texts.times(deep, "(") + "h.valid" + Texts.times(deep, ")") + "){}");
        }
        // Those that are closed do not count, nor do a sum's.
        good("if(!!!!!!h.valid&&!!!!!!h.valid&&((((((1<2))))))&&!!!!!!1<2){}");
        bad("if(!!!!!!h.valid&&!!!!!!@!h.valid){}");
        good("if((((((h.valid)&&(h.valid))&&(h.valid))&&(h.valid))&&(h.valid))&&(h.valid)){}");
        good("if(!!!!!!1+((((((1))))))<1+((((((1))))))){}");
        bad("if(!!!!!!1+((((((@(1)))))))<1){}");
    }

    private static void statementCount() {
        Expect.sentence("A program has at most 60 statements");
        String[] ones = {"drop;", "m=1;", "h.a=1;", "out=1;", "add h;", "remove h;", "if(1<2){}", "if(1<2){}else{}"};
        for (String one : ones) {
            Texts.atMost(60, START, one, "}");
        }
        Texts.atMost(60, "header i{x 16;}" + Texts.STATE + "control{", "checksum i.x;", "}");
        String table = "action f(){}table t{key m exact;actions f;default f();}";
        Texts.atMost(60, HEADS + table + Texts.STATE + "control{", "apply t;", "}");
        Texts.atMost(60, "action f(){", "drop;", "}" + Texts.STATE + "control{}");
        // All actions and the control together.
        String actions = Texts.times(8, "action f#(){drop;drop;drop;drop;drop;drop;}");
        Texts.atMost(12, actions + Texts.STATE + "control{", "drop;", "}");
        Texts.atMost(12, "action f(){" + Texts.times(48, "drop;") + "}action g(){", "drop;", "}" + Texts.STATE + "control{}");
        // An if is one, and so is each statement in it.
        Texts.atMost(30, START, "if(1<2){drop;}", "}");
        Texts.atMost(20, START, "if(1<2){drop;}else{drop;}", "}");
        Texts.atMost(59, START + "if(1<2){", "drop;", "}}");
        Texts.atMost(59, START + "if(1<2){}else{", "drop;", "}}");
        bad("if(1<2){" + Texts.times(59, "drop;") + "}@drop;");
        bad(Texts.times(59, "drop;") + "if(1<2){@drop;}");
        // The next text begins at 0.
        PacketSwitch x = new PacketSwitch();
        for (int i = 0; i < 3; i++) {
            Expect.same("60 again", PacketSwitch.NONE, Expect.load(x, START + Texts.times(60, "drop;") + "}"));
        }
    }

    private static void partCount() {
        Expect.sentence("at most 300 PARTS (brackets do not count) and signs OP in its sums");
        // 150 parts and 149 signs: one more can stand.
        String most = "out=1" + Texts.times(149, "+1") + ";";
        good(most);
        good(most + "out=1;");
        bad(most + "out=1@+1;");
        bad(most + "out=1;out=@1;");
        bad(most + "out=1;out=((@1));");
        good(most + "out=((((((1))))));");
        bad("out=1" + Texts.times(149, "+1") + "+@1;");
        bad("out=1" + Texts.times(149, "+1") + "+(@1);");
        for (String sign : new String[] {"+", "-", "&", "|", "^", "<<", ">>"}) {
            good("out=1" + Texts.times(149, sign + "1") + ";out=1;");
            bad("out=1" + Texts.times(149, sign + "1") + ";out=1@" + sign + "1;");
        }
        for (String part : new String[] {"1", "m", "h.a", "in", "out", "size"}) {
            good("out=" + part + Texts.times(149, "+" + part) + ";out=" + part + ";");
            bad("out=" + part + Texts.times(149, "+" + part) + ";out=" + part + ";out=@" + part + ";");
        }
        // Those of tests count, validities and signs of tests do not.
        String test = "if(!!h.valid&&(1+m<h.a)){}";
        good("out=1" + Texts.times(99, "+1") + ";out=1;" + Texts.times(25, test));
        bad("out=1" + Texts.times(99, "+1") + ";out=1;" + Texts.times(25, test) + test.replace("1", "@1"));
        bad("out=1" + Texts.times(99, "+1") + ";out=1;out=1;" + Texts.times(24, test) + test.replace("h.a", "@h.a"));
        good(most + "out=1;if(h.valid||!h.valid){}");
        bad(most + "out=1;if(h.valid||@1<2){}");
        bad(most + "if(1<@m){}");
        // Those of actions count, numbers of other things do not.
        String counted = "meta m 9;action f(p 8){" + most + "}table t{key m exact;actions f;default f(1);}"
            + "state s{select m{1:accept;2/3:s;}}control{apply t;";
        Texts.fine(counted + "out=1;}");
        Texts.fault(counted + "out=1;out=@1;}");
    }

    private static void longTexts() {
        Expect.sentence("THE TAPE has bytes, at most 2000");
        String start = "header h{a 8;}" + Texts.STATE + "control{if(h.valid";
        String text = start + Texts.times((2000 - start.length() - 4) / 10, "&&!h.valid");
        String end = "){}}";
        Texts.fine(text + Texts.times(2000 - text.length() - end.length(), " ") + end);
        Texts.faultAt(2000, text + Texts.times(2000 - text.length(), " "));
        Texts.faultAt(2000, Texts.times(2000, "\n"));
        Texts.faultAt(0, Texts.times(2000, "{"));
        Texts.faultAt(0, Texts.times(2000, "a"));
        Texts.faultAt(7, "header " + Texts.times(1993, "a"));
        Texts.faultAt(7, "meta m " + Texts.times(1993, "9"));
        Texts.faultAt(7, "meta m " + Texts.times(1993, "0"));
        Texts.fine("meta m " + Texts.times(1950 - Texts.STATE.length(), "0") + "8;" + Texts.STATE + "control{}");
        bad("if(!!!!!!@" + Texts.times(1900, "!"));
        bad("if(" + "((((((@" + Texts.times(1900, "("));
        bad("out=((((((@" + Texts.times(1900, "("));
        bad("if(1<2){" + Texts.times(5, "if(1<2){") + "@" + Texts.times(200, "if(1<2){"));
    }
}
