/** Promises 10 and 11: packet and octet. */
public final class PacketTest {
    private static final String HEADS = "header h { a 4; b 12; } header e { x 8; y 48; } header c { w 16; z 16; v 16; } meta m 20; ";
    private static final String START = HEADS + "state s { extract h; goto accept; } ";

    public static void main(String[] args) {
        portsAndSizes();
        withoutProgram();
        dropping();
        takingApart();
        selecting();
        manyStates();
        sums();
        inOutSize();
        assigning();
        addingAndRemoving();
        checksums();
        testing();
        applying();
        puttingTogether();
        octets();
        Expect.finish();
    }

    private static void control(String statements, String in, int port, String out) {
        Expect.goes(statements, Expect.loaded(START + "control { " + statements + " }"), 3, in, port, out);
    }

    private static String bytes(int count) {
        StringBuilder digits = new StringBuilder();
        for (int i = 0; i < count; i++) {
            digits.append(String.format("%02x", i & 255));
        }
        return digits.toString();
    }

    private static void portsAndSizes() {
        PacketSwitch x = Expect.loaded("state s { goto accept; } control { out = in; }");
        Expect.goes("before", x, 1, "abcd", 1, "abcd");
        Expect.tape(x, Expect.hex("0102"));
        int[] wrong = {-1, 512, Integer.MIN_VALUE, Integer.MAX_VALUE};
        for (int port : wrong) {
            Expect.same("port " + port, PacketSwitch.REFUSED, x.packet(port));
        }
        Expect.same("OUT stays", "abcd", Expect.out(x));
        Expect.same("no packet came", 1, x.count(5));
        Expect.same("the tape stays", 511, x.packet(511));
        Expect.same("it was on it", "0102", Expect.out(x));
        Expect.goes("port 0", x, 0, "", 0, "");
        Expect.goes("200 bytes", x, 7, bytes(200), 7, bytes(200));
        Expect.tape(x, Expect.hex(bytes(201)));
        Expect.same("201 bytes", PacketSwitch.REFUSED, x.packet(7));
        Expect.same("OUT stays", 200, x.octet(-1));
        Expect.same("the tape stays", 200, x.end(200));
        Expect.same("200 of them", 8, x.packet(8));
        Expect.same("packets", 5, x.count(5));
        Expect.same("the tape is empty", PacketSwitch.REFUSED, x.end(1));
    }

    private static void withoutProgram() {
        PacketSwitch x = new PacketSwitch();
        Expect.tape(x, Expect.hex(bytes(201)));
        Expect.same("REFUSED before NONE", PacketSwitch.REFUSED, x.packet(0));
        Expect.same("the tape stays", 201, x.end(201));
        Expect.same("a port that is none", PacketSwitch.REFUSED, x.packet(512));
        x.end(200);
        Expect.same("no program", PacketSwitch.NONE, x.packet(0));
        Expect.same("the tape is empty", PacketSwitch.REFUSED, x.end(1));
        Expect.same("none came", 0, x.count(5));
        Expect.same("OUT", 0, x.octet(-1));
    }

    private static void dropping() {
        control("drop;", "1234", PacketSwitch.DROPPED, "");
        control("drop; out = 5; add e;", "1234", PacketSwitch.DROPPED, "");
        control("if (h.a == 1) { drop; }", "1234", PacketSwitch.DROPPED, "");
        control("if (h.a == 2) { drop; }", "1234", 0, "1234");
        PacketSwitch x = Expect.loaded(START + "control { if (h.b == 0) { drop; } }");
        Expect.goes("goes out", x, 0, "1001 55", 0, "1001 55");
        Expect.goes("OUT is empty then", x, 0, "1000 55", PacketSwitch.DROPPED, "");
        Expect.goes("the next is not dropped", x, 0, "2002", 0, "2002");
        Expect.goes("nor OUT kept by a reject", x, 0, "20", PacketSwitch.DROPPED, "");
    }

    private static void takingApart() {
        PacketSwitch x = Expect.loaded(HEADS + "state s { extract h; extract e; extract h; goto accept; }"
            + " control { out = h.a; e.x = e.x + h.b; }");
        Expect.goes("one taken anew", x, 0, "1002 05 a1a2a3a4a5a6 2003 99", 2, "2003 08 a1a2a3a4a5a6 99");
        Expect.goes("just enough", x, 0, "1002 05 a1a2a3a4a5a6 f0ff", 15, "f0ff 04 a1a2a3a4a5a6");
        Expect.goes("a byte less", x, 0, "1002 05 a1a2a3a4a5a6 f0", PacketSwitch.DROPPED, "");
        Expect.goes("nothing", x, 0, "", PacketSwitch.DROPPED, "");
        Expect.same("rejected", 2, x.count(6));
        x = Expect.loaded("header w { a 1; b 7; c 48; d 48; e 48; f 3; g 5; } state s { extract w; goto accept; }"
            + " control { w.a = w.a ^ 1; w.b = w.b + 1; w.c = w.d; w.e = w.e >> 1; w.f = w.g; w.g = w.f; }");
        Expect.goes("160 bits", x, 0,
            "85 010203040506 c1c2c3c4c5c6 800000000001 ab", 0, "06 c1c2c3c4c5c6 c1c2c3c4c5c6 400000000000 63");
        x = Expect.loaded("state s { goto reject; } control { out = 5; }");
        Expect.goes("reject", x, 0, "12", PacketSwitch.DROPPED, "");
        x = Expect.loaded(HEADS + "action d() {} table t { key m exact; actions d; default d(); }"
            + " state s { extract h; select h.a { 1: accept; } } control { apply t; }");
        Expect.goes("at reject nothing is done", x, 0, "2000", PacketSwitch.DROPPED, "");
        Expect.same("no default was done", 0, x.look(0, 1));
    }

    private static void selecting() {
        PacketSwitch x = Expect.loaded(HEADS + "state s { extract h; select h.b { 5: a; 16/240: b; 6: c; 5: c; 20: c;"
            + " 4095: accept; 4101: c; default: d; } }"
            + " state a { extract e; goto accept; } state b { goto accept; } state c { goto reject; }"
            + " state d { extract c; goto accept; } control { out = 1; if (e.valid) { out = 2; } if (c.valid) { out = 3; } }");
        Expect.goes("the first case", x, 0, "0005 01 010101010101", 2, "0005 01 010101010101");
        Expect.goes("in the bits behind /", x, 0, "0f1f", 1, "0f1f");
        Expect.goes("not the later one", x, 0, "0014", 1, "0014");
        Expect.goes("to reject", x, 0, "0006", PacketSwitch.DROPPED, "");
        Expect.goes("to accept", x, 0, "0fff", 1, "0fff");
        Expect.goes("the default", x, 0, "0007 010203040506", 3, "0007 010203040506");
        Expect.goes("the default, too short", x, 0, "0007 0102030405", PacketSwitch.DROPPED, "");
        x = Expect.loaded(HEADS + "state s { extract h; select h.a { 1: accept; 17: reject; } } control {}");
        Expect.goes("a case", x, 0, "1000", 0, "1000");
        Expect.goes("no case, no default", x, 0, "2000", PacketSwitch.DROPPED, "");
        x = Expect.loaded(HEADS + "state s { extract h; select h.a { 17: reject; 0/0: accept; } } control {}");
        Expect.goes("a number of more bits is not the same", x, 0, "1000", 0, "1000");
        x = Expect.loaded(HEADS + "state s { select m { 0: t; } } state t { select e.x { 0: accept; } } control {}");
        Expect.goes("a meta, and a field that was not taken, are 0", x, 0, "10", 0, "10");
        x = Expect.loaded(HEADS + "state s { select m { } } control {}");
        Expect.goes("no cases", x, 0, "10", PacketSwitch.DROPPED, "");
    }

    private static void manyStates() {
        PacketSwitch x = Expect.loaded("header o { v 8; } state s { extract o; select o.v { 0: s; default: accept; } }"
            + " control { out = size; }");
        String zeros = bytes(1).repeat(15);
        Expect.goes("16 states", x, 0, zeros + "01", 16, "01");
        Expect.goes("the 17th", x, 0, zeros + "00 01", PacketSwitch.DROPPED, "");
        x = Expect.loaded("state s { goto s; } control {}");
        Expect.goes("without an end", x, 0, "01", PacketSwitch.DROPPED, "");
        Expect.same("rejected", 1, x.count(6));
        x = Expect.loaded("state a { goto c; } state b { goto reject; } state c { goto accept; } control {}");
        Expect.goes("the first state is where it begins", x, 0, "01", 0, "01");
    }

    private static void sum(String sum, long due) {
        PacketSwitch x = Expect.loaded("header r { v 48; } state s { extract r; goto accept; } control { r.v = " + sum + "; }");
        Expect.goes(sum, x, 3, "800000000005 aa", 0, String.format("%012x", due) + "aa");
    }

    private static void sums() {
        long top = 0xffffffffffffL;
        sum("1 + 2", 3);
        sum("281474976710655 + 2", 1);
        sum("0 - 1", top);
        sum("2 - 3 + 1", 0);
        sum("1 + 2 << 3", 24);
        sum("1 << 2 + 3", 7);
        sum("1 + (2 << 3)", 17);
        sum("255 & 15 | 240 ^ 3", 252);
        sum("1 | 2 & 2", 2);
        sum("1 | (6 & 2)", 3);
        sum("1 << 47", 1L << 47);
        sum("3 << 47", 1L << 47);
        sum("1 << 48", 0);
        sum("1 << 64", 0);
        sum("1 << 281474976710655", 0);
        sum("r.v >> 47", 1);
        sum("r.v >> 48", 0);
        sum("r.v >> 64", 0);
        sum("r.v << 0", 0x800000000005L);
        sum("r.v + r.v", 10);
        sum("0 - 1 >> 47", 1);
        sum("1 - 2 & 255", 255);
        sum("(((((1 + 2) << 1) + 3) << 1) + 4) << 1", 44);
        sum("1 + (2 - (3 - (4 - (5 - (6 - (7 - 8))))))", 1 + 2 - 3 + 4 - 5 + 6 - 7 + 8);
        sum("10 - (3 - 1) - 1", 7);
        sum("in + size", 10);
    }

    private static void inOutSize() {
        control("h.b = in; out = size + 500;", "1000 aabb", 504, "1003 aabb");
        control("out = 5; h.b = out + 1; out = out + out;", "1000", 10, "1006");
        control("out = 512;", "1000", 0, "1000");
        control("out = 1023;", "1000", 511, "1000");
        control("remove h; add e; h.b = 4; out = size;", "1000", 2, "00 000000000000");
    }

    private static void assigning() {
        control("h.a = 18;", "f00f", 0, "200f");
        control("h.b = 0 - 1;", "1000", 0, "1fff");
        control("m = 1048576 + 5; h.b = m;", "1000", 0, "1005");
        control("m = 0 - 1; out = m >> 19; h.b = m >> 20;", "1fff", 1, "1000");
        control("e.x = 5; h.b = e.x;", "1fff", 0, "1000");
        control("e.x = 5; add e; h.b = e.x;", "1fff", 0, "1000 00 000000000000");
        control("m = m + 1; m = m + m; h.b = m;", "1fff", 0, "1002");
        PacketSwitch x = Expect.loaded(START + "control { m = m + 1; out = out + 1; h.b = m; }");
        Expect.goes("metas and out begin at 0", x, 0, "1fff", 1, "1001");
        Expect.goes("each time", x, 0, "1fff", 1, "1001");
        x = Expect.loaded("meta a 1; meta b 2; meta c 3; meta d 4; meta e 5; meta f 48; state s { goto accept; }"
            + " control { f = 0 - 1; a = f; b = f; c = f; d = f; e = f; out = a + b + c + d + e; if (f >> 47 != 1) { drop; } }");
        Expect.goes("each meta with its width", x, 0, "01", 1 + 3 + 7 + 15 + 31, "01");
    }

    private static void addingAndRemoving() {
        control("add h;", "1234", 0, "1234");
        control("remove h; add h;", "1234 56", 0, "0000 56");
        control("remove h; h.b = 5; add h;", "1234 56", 0, "0000 56");
        control("remove h; out = h.b;", "1234 56", 0, "56");
        control("remove e;", "1234 56", 0, "1234 56");
        control("add c; add e; e.y = 1; c.v = 2;", "1234", 0, "1234 00 000000000001 0000 0000 0002");
        control("add e; e.x = 7; add e;", "1234", 0, "1234 07 000000000000");
        PacketSwitch x = Expect.loaded(START + "control { if (e.valid) { out = 1; } add e; e.x = 9; }");
        Expect.goes("no header is valid at first", x, 0, "1234", 0, "1234 09 000000000000");
        Expect.goes("each time", x, 0, "1234", 0, "1234 09 000000000000");
        x = Expect.loaded(HEADS + "state s { goto accept; } control { if (h.valid) { out = 1; } add h; h.b = h.b + 1; }");
        Expect.goes("nor is the first one", x, 0, "1234", 0, "0001 1234");
        Expect.goes("each time", x, 0, "1234", 0, "0001 1234");
        x = Expect.loaded("header p { a 1; b 1; c 1; d 1; e 1; f 1; g 1; h 1; } header q { a 8; }"
            + " state s { extract q; extract p; goto accept; } control { if (p.h == 1) { remove p; } }");
        Expect.goes("headers with all their fields", x, 0, "77 fe 55", 0, "fe 77 55");
        Expect.goes("the next header is not touched", x, 0, "77 ff 55", 0, "77 55");
    }

    private static void sumOf(String in, String due) {
        PacketSwitch x = Expect.loaded(HEADS + "state s { extract c; goto accept; } control { checksum c.z; }");
        Expect.goes("checksum of " + in, x, 0, in, 0, due);
    }

    private static void checksums() {
        sumOf("0000 0000 0000", "0000 ffff 0000");
        sumOf("0000 1234 0000", "0000 ffff 0000");
        sumOf("ffff 0000 0000", "ffff 0000 0000");
        sumOf("ffff 0000 ffff", "ffff 0000 ffff");
        sumOf("ffff 0000 0001", "ffff fffe 0001");
        sumOf("8000 abcd 8001 77", "8000 fffd 8001 77");
        sumOf("1234 0000 4321", "1234 aaaa 4321");
        control("checksum c.z;", "1234", 0, "1234");
        control("checksum c.z; add c;", "1234", 0, "1234 0000 0000 0000");
        control("add c; checksum c.w;", "1234", 0, "1234 ffff 0000 0000");
        PacketSwitch x = Expect.loaded("header i { a 8; b 8; s 16; f 32; t 48; g 16; k 13; l 3; }"
            + " state q { extract i; goto accept; } control { i.a = i.a - 1; checksum i.s; }");
        Expect.goes("fields across words", x, 0, "4500 ffff 0a000001 c0a800010002 ffff 1234", 0,
            "4400 df1e 0a000001 c0a800010002 ffff 1234");
        x = Expect.loaded("header i { a 16; } state q { extract i; goto accept; } control { checksum i.a; }");
        Expect.goes("alone", x, 0, "1234", 0, "ffff");
    }

    private static void holds(String test, boolean due) {
        control("if (" + test + ") { out = 1; } else { out = 2; }", "1005", due ? 1 : 2, "1005");
        control("out = 2; if (" + test + ") { out = 1; }", "1005", due ? 1 : 2, "1005");
        control("out = 1; if (" + test + ") {} else { out = 2; }", "1005", due ? 1 : 2, "1005");
    }

    private static void testing() {
        holds("1 == 1", true);
        holds("1 == 2", false);
        holds("1 != 2", true);
        holds("1 != 1", false);
        holds("1 < 2", true);
        holds("2 < 2", false);
        holds("2 <= 2", true);
        holds("3 <= 2", false);
        holds("3 > 2", true);
        holds("2 > 2", false);
        holds("2 >= 2", true);
        holds("1 >= 2", false);
        holds("0 - 1 > 5", true);
        holds("h.b + 1 == 2 + (4)", true);
        holds("h.valid", true);
        holds("e.valid", false);
        holds("!h.valid", false);
        holds("!!h.valid", true);
        holds("!e.valid", true);
        holds("!1 == 2", true);
        holds("!(1 == 2)", true);
        holds("1 == 1 && 2 == 2 && 3 == 3", true);
        holds("1 == 1 && 2 == 2 && 3 == 4", false);
        holds("1 == 2 && 2 == 2 && 3 == 3", false);
        holds("1 == 2 || 2 == 3 || 3 == 3", true);
        holds("1 == 2 || 2 == 3 || 3 == 4", false);
        holds("!1 == 1 || 2 == 2", true);
        holds("!(1 == 1 || 2 == 2)", false);
        holds("(1 == 1 || 1 == 2) && (1 == 2 || 1 == 1)", true);
        holds("(1 == 1 && 1 == 2) || (1 == 2 && 1 == 1)", false);
        holds("!((!(1 < 2 && !h.valid)) && e.valid)", true);
        holds("1 < 2 && (1 < 2 && (1 < 2 && (1 < 2 && (1 < 2 && (1 < 2 && (1 < 1 + (1 + (1 + (1)))))))))", true);
        control("if (1 < 2) { if (2 < 1) { out = 1; } else { if (1 < 2) { out = 2; } out = out + 4; } out = out + 8; }"
            + " else { out = 16; } out = out + 32;", "1000", 46, "1000");
    }

    private static void applying() {
        PacketSwitch x = Expect.loaded(START + "action a(p 12, m 9) { h.b = p; out = m; } action n() {}"
            + " table t { key h.a exact; actions a, n; default a(7, 8); } table u { key h.b exact; actions a; default a(9, 10); }"
            + " control { m = 77; if (h.a == 2) { apply t; apply u; } else { apply u; apply t; } e.x = m; if (m != 77) { drop; } }");
        Expect.goes("in the order of the control", x, 0, "2001", 10, "2009");
        Expect.goes("the other order", x, 0, "1001", 8, "1007");
        x.match(0, 7, 0);
        x.argument(0, 4095);
        x.argument(1, 511);
        Expect.same("insert", 0, x.insert(1, 0, 0));
        Expect.goes("the second sees what the first did", x, 0, "2001", 511, "2fff");
        Expect.same("hits", 1, x.hits(0));
        Expect.goes("in the other order it does not", x, 0, "1001", 8, "1007");
        Expect.same("hits", 1, x.hits(0));
        x = Expect.loaded(START + "action a() { remove h; drop; } table t { key h.b lpm; actions a; default a(); }"
            + " control { apply t; apply t; }");
        x.match(0, 0, 12);
        Expect.same("insert", 0, x.insert(0, 0, 0));
        Expect.goes("a field of a header that is not valid is 0", x, 0, "1001", PacketSwitch.DROPPED, "");
        Expect.same("hits, of a packet that was dropped", 1, x.hits(0));
        Expect.same("defaults done", 1, x.look(0, 1));
    }

    private static void puttingTogether() {
        PacketSwitch x = Expect.loaded(HEADS + "state s { extract c; extract h; goto accept; } control { add e; e.x = 1; }");
        Expect.goes("in the order of declaration", x, 0, "c1c2c3c4c5c6 1234 aabb", 0,
            "1234 01000000000000 c1c2c3c4c5c6 aabb");
        StringBuilder text = new StringBuilder();
        for (int i = 0; i < 6; i++) {
            text.append("header h" + i + "{a 48;b 48;c 48;d 16;}");
        }
        text.append("state s{goto accept;}control{add h0;add h1;add h2;add h3;add h4;add h5;h5.d=65535;out=1;}");
        x = Expect.loaded(text.toString());
        String zeros = "00".repeat(118);
        Expect.goes("the longest of all", x, 0, bytes(200), 1, zeros + "ffff" + bytes(200));
        Expect.goes("the shortest of these", x, 0, "", 1, zeros + "ffff");
    }

    private static void octets() {
        PacketSwitch x = Expect.loaded("state s { goto accept; } control {}");
        Expect.goes("bytes", x, 0, "00 7f 80 ff", 0, "00 7f 80 ff");
        Expect.same("how many", 4, x.octet(-1));
        Expect.same("128 and more", 255, x.octet(3));
        int[] wrong = {-2, 4, 5, 200, 320, 2000, Integer.MIN_VALUE, Integer.MAX_VALUE};
        for (int i : wrong) {
            Expect.same("octet " + i, PacketSwitch.NONE, x.octet(i));
        }
    }
}
