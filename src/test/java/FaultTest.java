/** Promise 4: a FAULT is the place of the first token that can not stand there. */
public final class FaultTest {
    private static final String TAIL = " state s { goto accept; } control {}";
    private static final String HEADS = "header h { a 8; b 16; c 8; } header e { w 16; x 16; y 32; } meta m 9; ";
    private static final String START = HEADS + "state s { goto accept; } ";
    private static final String ACTS = START + "action f(p 9, q 48) { out = p; } action g() { drop; } ";

    public static void main(String[] args) {
        tokens();
        program();
        headersAndMetas();
        states();
        actions();
        tables();
        names();
        statements();
        checksums();
        sums();
        tests();
        Expect.finish();
    }

    /** Statements of a control that is fine but for the mark. */
    private static void badControl(String statements) {
        Texts.fault(START + "control { " + statements + " }");
    }

    private static void goodControl(String statements) {
        Texts.fine(START + "control { " + statements + " }");
    }

    private static void tokens() {
        Texts.fine("meta abcdefgh 4;" + TAIL);
        Texts.fine("meta a_0z9___ 4;" + TAIL);
        Texts.fault("meta @abcdefghi 4;" + TAIL);
        Texts.fault("meta @_a 4;" + TAIL);
        Texts.fault("meta @Ab 4;" + TAIL);
        Texts.fault("meta a@B 4;" + TAIL);
        Texts.fault("@checksums");
        Texts.fault("meta@\t4;");
        Texts.fault("meta a @\r 4;" + TAIL);
        Texts.fault("meta a @\0 4;" + TAIL);
        Texts.fault("meta a 4@\u00a0;" + TAIL);
        Texts.fault("meta a 4@\u00fb;" + TAIL);
        Texts.fault("meta a 4; @#");
        Texts.fault("@?");
        Texts.fine("meta\nm\n000000000000000000000000000000048\n;\n" + TAIL + "\n");
        Texts.fine("meta m 48;meta n 1;state s{select m{281474976710655:accept;}}control{}");
        Texts.fault("meta m 48;state s{select m{@281474976710656:accept;}}control{}");
        Texts.fault("meta m 48;state s{select m{@99999999999999999999999999:accept;}}control{}");
        Texts.fault("meta m 48;state s{select m{@18446744073709551617:accept;}}control{}");
        Texts.fault("meta m 48;state s{select m{@2814749767106550:accept;}}control{}");
        Texts.fault("meta @\2 4;" + TAIL);
        Texts.fault("meta a @\3;" + TAIL);
        Texts.fine("meta m 8;state s{goto accept;}control{m=1<<2>>3&m|4^5+6-7;if(m<1&&m<=2&&m>=3&&m==4&&m!=5){}}");
        Texts.fine("meta m 8;state s{goto accept;}control{if(!m>1||m<1){}}");
        badControl("m = 1 << @= 2;");
        badControl("m = 1 <<@= 2;");
        badControl("m @== 1;");
        badControl("m = @= 1;");
        badControl("m = m @&& 1;");
        badControl("m = m @&&& 1;");
        badControl("m = m @* 1;");
        badControl("m = 8@x;");
    }

    private static void program() {
        Texts.fault("@");
        Texts.fault("   \n  @");
        Texts.fault("@control {}");
        Texts.fault("header a { x 8; } @control {}");
        Texts.fault("@m 4;");
        Texts.fault("@4");
        Texts.fault("@{");
        Texts.fault("state s { goto accept; } @");
        Texts.fault("state s { goto accept; }   @");
        Texts.fault("state s { goto accept; } control @");
        Texts.fault("state s { goto accept; } control {@");
        Texts.fault("state s { goto accept; } control {  @");
        Texts.fault("state s { goto accept; } control @;");
        Texts.fault("state s { goto accept; } control {} @;");
        Texts.fault("state s { goto accept; } control {} @control {}");
        Texts.fault("state s { goto accept; } control {} @$");
        Texts.fault("state s { goto accept; } control {} @meta m 4;");
        Texts.fine("state s { goto accept; } control {}  \n ");
        Texts.fault("state s { goto accept; } @drop;");
        Texts.fault("state s { goto accept; } @if");
    }

    private static void headersAndMetas() {
        Texts.fine("header a { x 8; }" + TAIL);
        Texts.fault("header @");
        Texts.fault("header @{");
        Texts.fault("header @header");
        Texts.fault("header @size { x 8; }");
        Texts.fault("header a @x");
        Texts.fault("header a {@");
        Texts.fault("header a { @}" + TAIL);
        Texts.fault("header a { x @; }");
        Texts.fault("header a { x @y; }");
        Texts.fault("header a { x 8 @}");
        Texts.fault("header a { @8; }");
        Texts.fault("header a { @out 8; }");
        Texts.fault("header a { x @0; }");
        Texts.fault("header a { x @49; }");
        Texts.fault("header a { x 8; @x 8; }");
        Texts.fault("header a { x 7; @}");
        Texts.fault("header a { x 7; y 2; @}");
        Texts.fine("header a { x 7; y 1; }" + TAIL);
        Texts.fine("header a { x 48; y 48; z 48; w 16; }" + TAIL);
        Texts.fault("header a { x 48; y 48; z 48; w 17; @}");
        Texts.fault("header a { x 48; y 48; z 48; w 24; @}");
        Texts.fault("header a { a 8; b 48; c 48; d 48; e 48; f 48; g 48; h 48; @}");
        Texts.fine("header a { a 1; b 1; c 1; d 1; e 1; f 1; g 1; h 1; }" + TAIL);
        Texts.fault("header a { a 1; b 1; c 1; d 1; e 1; f 1; g 1; h 1; @i 8; }");
        Texts.fault("header a { a 1; b 1; c 1; d 1; e 1; f 1; g 1; h 2; @}");
        Texts.fine("header a { a 8; } header b { a 8; b 8; }" + TAIL);
        Texts.fine("meta m 1; meta n 48;" + TAIL);
        Texts.fault("meta @4");
        Texts.fault("meta m @;");
        Texts.fault("meta m @0;");
        Texts.fault("meta m @49;");
        Texts.fault("meta m 4 @meta");
        Texts.fault("meta m 4@");
    }

    private static void states() {
        Texts.fault("state @{");
        Texts.fault("state s @goto");
        Texts.fault("state s { @}");
        Texts.fault("state s { goto @; }");
        Texts.fault("state s { goto @goto; }");
        Texts.fault("state s { goto accept @}");
        Texts.fault("state s { goto accept; @goto reject; }");
        Texts.fault("state s { goto accept; @extract h; }");
        Texts.fault("state s { @drop; }");
        Texts.fault("state s { extract @h; goto accept; }");
        Texts.fault("state s { extract @h; goto accept; } header h { a 8; } control {}");
        Texts.fault("meta m 8; state s { extract @m; goto accept; }");
        Texts.fault(HEADS + "state s { extract h @, e; goto accept; }");
        Texts.fine(HEADS + "state s { extract h; extract h; extract e; goto accept; } control {}");
        Texts.fault(HEADS + "state s { extract h; extract h; extract e; @extract h; goto accept; } control {}");
        Texts.fine(HEADS + "state s { select h.a { } } control {}");
        Texts.fine(HEADS + "state s { select m { default: s; } } control {}");
        Texts.fault(HEADS + "state s { select @g.a { } } control {}");
        Texts.fault(HEADS + "state s { select h.@w { } } control {}");
        Texts.fault(HEADS + "state s { select h @{ } } control {}");
        Texts.fault(HEADS + "state s { select m@.a { } } control {}");
        Texts.fault(HEADS + "state s { select @in { } } control {}");
        Texts.fault(HEADS + "state s { select m { 1 @accept; } } control {}");
        Texts.fault(HEADS + "state s { select m { 1/@: accept; } } control {}");
        Texts.fault(HEADS + "state s { select m { 1/2@/3: accept; } } control {}");
        Texts.fault(HEADS + "state s { select m { 1: accept @} } control {}");
        Texts.fault(HEADS + "state s { select m { 1: @1; } } control {}");
        Texts.fault(HEADS + "state s { select m { default: accept; @1: accept; } } control {}");
        Texts.fault(HEADS + "state s { select m { default: accept; @default: accept; } } control {}");
        Texts.fault(HEADS + "state s { select m { default @accept; } } control {}");
        Texts.fault(HEADS + "state s { select m { 1: accept; }@; } control {}");
        Texts.fault("state s { goto accept; } state @s { goto accept; } control {}");
        Texts.fine("state s { goto t; } state t { goto s; } control {}");
        Texts.fault("state s { goto @t; } control {}");
        Texts.fault("state s { goto @t; } state u { goto v; } control {}");
        Texts.fault("state s { goto t; } control { @x = 1; }");
        Texts.fault("state s { goto t; } control {} @x");
        Texts.fault("state s { goto t; } control {@");
        Texts.fault(HEADS + "state s { select m { 1: s; 2: @a; 3: b; default: c; } } control {}");
        Texts.fault(HEADS + "state s { select m { 1: s; 2: t; default: @c; } } state t { goto d; } control {}");
        Texts.fault(HEADS + "state s { goto @h; } control {}");
    }

    private static void actions() {
        Texts.fine(START + "action f() {} control {}");
        Texts.fine(START + "action f(a 1, b 48, c 9) {} control {}");
        Texts.fault(START + "action @{} control {}");
        Texts.fault(START + "action f @{} control {}");
        Texts.fault(START + "action f(@, a 1) {} control {}");
        Texts.fault(START + "action f(a @) {} control {}");
        Texts.fault(START + "action f(a @0) {} control {}");
        Texts.fault(START + "action f(a @49) {} control {}");
        Texts.fault(START + "action f(a 1 @b 2) {} control {}");
        Texts.fault(START + "action f(a 1, @) {} control {}");
        Texts.fault(START + "action f(a 1, @a 1) {} control {}");
        Texts.fault(START + "action f(a 1, b 1, c 1, @d 1) {} control {}");
        Texts.fault(START + "action f(a 1, b 1, c 1, @) {} control {}");
        Texts.fault(START + "action f(@1) {} control {}");
        Texts.fault(START + "action f() @; control {}");
        Texts.fault(START + "action f() { @apply t; } control {}");
        Texts.fault(START + "action f() { @if (1 < 2) {} } control {}");
        Texts.fault(START + "action f() { @{} } control {}");
        Texts.fault(START + "action f(p 8) { @p = 1; } control {}");
        Texts.fault(START + "action f(m 8) { @m = 1; } control {}");
        Texts.fault(START + "action f(h 8) { @h.a = 1; } control {}");
        Texts.fault(START + "action f(h 8) { add @h; } control {}");
        Texts.fault(START + "action f(e 8) { checksum @e.w; } control {}");
        Texts.fault(START + "action f(h 8) { m = h@.a; } control {}");
        Texts.fine(START + "action f(h 8, f 8, m 8) { out = h + f + m; } control { h.a = m; }");
        Texts.fine(START + "action f(a 8) { h.a = a; } action g(a 8) { h.a = a; } control {}");
        Texts.fault(START + "action f(p 8) { m = p; } control { m = @p; }");
        Texts.fault(START + "action f(p 8) { m = p; } action g(q 8) { m = @p; } control {}");
        Texts.fault(START + "action f(p 8) { m = p; } table t { key @p exact; actions f; default f(1); } control {}");
    }

    private static void tables() {
        String open = ACTS + "table t { ";
        String rest = " } control {}";
        Texts.fine(open + "key m exact; actions f; default f(511, 281474976710655);" + rest);
        Texts.fine(open + "key m exact, h.a lpm, e.y ternary; actions g, f; default g();" + rest);
        Texts.fault(ACTS + "table @{");
        Texts.fault(ACTS + "table t @key");
        Texts.fault(open + "@actions f;" + rest);
        Texts.fault(open + "key @; actions f;" + rest);
        Texts.fault(open + "key @q exact; actions f;" + rest);
        Texts.fault(open + "key h @exact; actions f;" + rest);
        Texts.fault(open + "key m @; actions f;" + rest);
        Texts.fault(open + "key m @size; actions f;" + rest);
        Texts.fault(open + "key m lpm, h.a @lpm; actions f;" + rest);
        Texts.fault(open + "key m lpm, h.a exact, h.b @lpm; actions f;" + rest);
        Texts.fault(open + "key m exact, h.a exact, h.b exact, @h.c exact; actions f;" + rest);
        Texts.fault(open + "key m exact, @; actions f;" + rest);
        Texts.fault(open + "key m exact @actions f;" + rest);
        Texts.fine(open + "key m exact, m exact, m exact; actions g; default g();" + rest);
        Texts.fault(open + "key m exact; @default g();" + rest);
        Texts.fault(open + "key m exact; actions @; default g();" + rest);
        Texts.fault(open + "key m exact; actions @m; default g();" + rest);
        Texts.fault(open + "key m exact; actions @x; default g();" + rest);
        Texts.fault(open + "key m exact; actions @t; default g();" + rest);
        Texts.fault(open + "key m exact; actions f, @f; default g();" + rest);
        Texts.fault(open + "key m exact; actions f @g; default g();" + rest);
        Texts.fault(open + "key m exact; actions f; @}" + " control {}");
        Texts.fault(open + "key m exact; actions f; default @g();" + rest);
        Texts.fault(open + "key m exact; actions f; default @m();" + rest);
        Texts.fault(open + "key m exact; actions f; default f@;" + rest);
        Texts.fault(open + "key m exact; actions f; default f(@);" + rest);
        Texts.fault(open + "key m exact; actions f; default f(1@);" + rest);
        Texts.fault(open + "key m exact; actions f; default f(@512, 1);" + rest);
        Texts.fault(open + "key m exact; actions f; default f(1, @m);" + rest);
        Texts.fault(open + "key m exact; actions f; default f(1, 2@, 3);" + rest);
        Texts.fault(open + "key m exact; actions f; default f(1 @2);" + rest);
        Texts.fault(open + "key m exact; actions g; default g(@1);" + rest);
        Texts.fault(open + "key m exact; actions g; default g() @}" + " control {}");
        Texts.fault(open + "key m exact; actions g; default g(); @key m exact;" + rest);
        String five = START + "action a() {} action b() {} action c() {} action d() {} action f() {} ";
        Texts.fine(five + "table t { key m exact; actions a, b, c, d; default d(); } control {}");
        Texts.fault(five + "table t { key m exact; actions a, b, c, d, @f; default d(); } control {}");
        Texts.fault("table t { key @m exact; actions g; default g(); } meta m 9;");
        Texts.fault(START + "table t { key m exact; actions @g; default g(); } action g() {} control {}");
    }

    private static void names() {
        Texts.fault("header a { x 8; } header @a { x 8; }" + TAIL);
        Texts.fault("header a { x 8; } meta @a 8;" + TAIL);
        Texts.fault("meta a 8; header @a { x 8; }" + TAIL);
        Texts.fault("meta a 8; action @a() {}" + TAIL);
        Texts.fault("action a() {} action @a() {}" + TAIL);
        Texts.fault("meta a 8; action b() {} table @b { key a exact; actions b; default b(); }" + TAIL);
        Texts.fault("meta a 8; action b() {} table @a { key a exact; actions b; default b(); }" + TAIL);
        Texts.fault("meta a 8; action b() {} table t { key a exact; actions b; default b(); } meta @t 8;" + TAIL);
        Texts.fine("header s { s 8; } meta t 8; state s { extract s; goto t; } state t { goto accept; } control {}");
        Texts.fine("meta s 8; action b() {} table t { key s exact; actions b; default b(); }"
            + " state t { goto b; } state b { goto s; } state s { goto accept; } control { apply t; }");
    }

    private static void statements() {
        goodControl("h.a = 1; m = 2; out = 3; drop; add h; remove e; checksum e.x;");
        goodControl("if (1 < 2) {} if (1 < 2) { drop; } else { drop; drop; }");
        badControl("@;");
        badControl("@in = 1;");
        badControl("@size = 1;");
        badControl("@1 = 1;");
        badControl("@x = 1;");
        badControl("h @= 1;");
        badControl("h.@x = 1;");
        badControl("h.@valid = 1;");
        badControl("m@.a = 1;");
        badControl("m @1;");
        badControl("m = @;");
        badControl("m = 1 @m = 2;");
        badControl("out @+ 1;");
        badControl("drop @drop;");
        badControl("drop@();");
        badControl("add @m;");
        badControl("add @s;");
        badControl("add @;");
        badControl("add h@.a;");
        badControl("remove @x;");
        badControl("remove h @}");
        badControl("apply @h;");
        badControl("apply @t;");
        badControl("@else {}");
        badControl("if @1 < 2 {}");
        badControl("if (@) {}");
        badControl("if (1 < 2 @{}");
        badControl("if (1 < 2) @drop;");
        badControl("if (1 < 2) {} else @drop;");
        badControl("if (1 < 2) {} else @if (1 < 2) {}");
        badControl("if (1 < 2) {} else {} @else {}");
        badControl("if (1 < 2) { @accept; }");
        Texts.fault(START + "control { if (1 < 2) { drop; @");
        Texts.fault(ACTS + "table t { key m exact; actions g; default g(); } control { apply t @}");
        Texts.fault(ACTS + "table t { key m exact; actions g; default g(); } control { apply @g; }");
        Texts.fine(ACTS + "table t { key m exact; actions g; default g(); } control { apply t; apply t; }");
    }

    private static void checksums() {
        badControl("checksum @m;");
        badControl("checksum @x.w;");
        badControl("checksum e@;");
        badControl("checksum e.@q;");
        badControl("checksum e.@y;");
        badControl("checksum h.@b;");
        badControl("checksum h.@a;");
        badControl("checksum e.w @}");
        goodControl("checksum e.w; checksum e.x;");
        Texts.fault("header a { x 16; y 8; } state s { goto accept; } control { checksum a.@x; }");
        Texts.fine("header a { x 16; y 8; z 8; } state s { goto accept; } control { checksum a.x; }");
        Texts.fine("header a { x 5; y 11; z 16; } state s { goto accept; } control { checksum a.z; }");
        Texts.fault("header a { x 8; z 16; y 8; } state s { goto accept; } control { checksum a.@z; }");
        Texts.fault("header a { x 17; y 15; } state s { goto accept; } control { checksum a.@x; }");
    }

    private static void sums() {
        goodControl("m = (1);");
        goodControl("m = 1 + (h.a - (m << in)) >> out & size | (3 ^ 4);");
        goodControl("m = ((((((1))))));");
        badControl("m = ((((((@(1)))))));");
        goodControl("m = ((((((1)))))) + ((((((1))))));");
        badControl("m = ((((((1)))))) + ((((((@(1)))))));");
        badControl("m = (@);");
        badControl("m = (1@;");
        badControl("m = 1@);");
        badControl("m = 1 + @;");
        badControl("m = 1 + @+ 2;");
        badControl("m = @- 1;");
        badControl("m = @!1;");
        badControl("m = 1 @2;");
        badControl("m = 1 @< 2;");
        badControl("m = @x;");
        badControl("m = h@;");
        badControl("m = h.@x;");
        badControl("m = h.@valid;");
        badControl("m = m@.a;");
        badControl("m = @s;");
        badControl("m = @drop;");
        badControl("m = (1 @}");
    }

    private static void tests() {
        goodControl("if (h.valid) {}");
        goodControl("if (!h.valid && !(e.valid || m == 1)) {}");
        goodControl("if ((h.a == 1)) {}");
        goodControl("if (h.a + (1) == 1 + (2)) {}");
        goodControl("if (1 < 2 && (1 < 2 || 1 < 2) && 1 < 2) {}");
        goodControl("if (!!!!!!h.valid) {}");
        badControl("if (!!!!!!@!h.valid) {}");
        goodControl("if (((((((h.valid))))))) {}");
        badControl("if (((((((@(h.valid)))))))) {}");
        goodControl("if (!(!(!(h.valid)))) {}");
        badControl("if (!(!(!(@!h.valid)))) {}");
        badControl("if (!(!(!(@(h.valid))))) {}");
        goodControl("if (!!!!!!h.valid && !!!!!!h.valid && ((((((1 < 2)))))) ) {}");
        goodControl("if (!!!!!!1 + ((((((2)))))) < 3) {}");
        badControl("if ((1@) < 2) {}");
        badControl("if ((1 + 2@) < 2) {}");
        badControl("if ((1 < 2) @< 2) {}");
        badControl("if (1 < @(2)) {}");
        badControl("if (1 < @(2) + 3) {}");
        badControl("if (1 < @!2) {}");
        badControl("if (1@) {}");
        badControl("if (m@) {}");
        badControl("if (1 @= 2) {}");
        badControl("if (1 < 2 @< 3) {}");
        badControl("if (1 < 2 && @) {}");
        badControl("if (1 < 2 && 1 < 2 @|| 1 < 2) {}");
        badControl("if (1 < 2 || 1 < 2 @&& 1 < 2) {}");
        badControl("if (1 < 2 && (1 < 2 || 1 < 2 @&& 1 < 2)) {}");
        goodControl("if (1 < 2 & 1) {}");
        badControl("if (h.valid @== 1) {}");
        badControl("if (1 == h.@valid) {}");
        badControl("if (1 + h.@valid) {}");
        badControl("if (m@.valid) {}");
        badControl("if (@x.valid) {}");
        badControl("if (@s.valid) {}");
        badControl("if (h@) {}");
        badControl("if (h.@) {}");
        badControl("if (h.@x == 1) {}");
        badControl("if (@valid) {}");
        badControl("if (h.valid@.a) {}");
        badControl("if (!@) {}");
        badControl("if (@&& 1 < 2) {}");
    }
}
