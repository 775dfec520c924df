/** Promise 4: what a load changes, and what stays. */
public final class LoadTest {
    private static final String SET = "header h { v 8; } state s { extract h; goto accept; }"
        + " action set(p 8) { h.v = p; } table t { key h.v exact; actions set; default set(9); }"
        + " control { apply t; }";
    private static final String OUT_7 = "state s { goto accept; } control { out = 7; }";

    public static void main(String[] args) {
        replaces();
        faultKeepsAll();
        madeUpStays();
        outStays();
        emptiesTheTape();
        manyLoads();
        nothingOfAnOlderProgram();
        Expect.finish();
    }

    private static PacketSwitch withEntry() {
        PacketSwitch x = Expect.loaded(SET);
        x.match(0, 1, 0);
        x.argument(0, 0x55);
        Expect.same("insert", 0, x.insert(0, 0, 0));
        Expect.goes("entry", x, 0, "01", 0, "55");
        Expect.goes("default", x, 0, "02", 0, "09");
        Expect.goes("rejected", x, 0, "", PacketSwitch.DROPPED, "");
        return x;
    }

    private static void replaces() {
        PacketSwitch x = withEntry();
        Expect.same("the same again", PacketSwitch.NONE, Expect.load(x, SET));
        Expect.same("no entries", 0, x.look(0, 0));
        Expect.same("the old entry", PacketSwitch.NONE, x.hits(0));
        Expect.same("no defaults done", 0, x.look(0, 1));
        Expect.same("no packets", 0, x.count(5));
        Expect.same("none rejected", 0, x.count(6));
        Expect.goes("its default", x, 0, "01", 0, "09");
        x.match(0, 2, 0);
        Expect.same("numbers begin anew", 0, x.insert(0, 0, 0));
        Expect.same("another program", PacketSwitch.NONE, Expect.load(x, OUT_7));
        Expect.same("no tables", PacketSwitch.NONE, x.look(0, 0));
        Expect.same("headers", 0, x.count(0));
        Expect.same("actions", 0, x.count(3));
        Expect.goes("what it does", x, 0, "01", 7, "01");
        Expect.same("and back", PacketSwitch.NONE, Expect.load(x, SET));
        Expect.same("without entries", 0, x.look(0, 0));
    }

    private static void faultKeepsAll() {
        PacketSwitch x = withEntry();
        Expect.same("a fault", 22, Expect.load(x, "header g { q 16; x 7; } control {}"));
        Expect.same("a late fault", OUT_7.length(), Expect.load(x, OUT_7 + "x"));
        Expect.same("a target that is no state", 15, Expect.load(x, "state s { goto t; } control {}"));
        Expect.same("hits", 1, x.hits(0));
        Expect.same("entries", 1, x.look(0, 0));
        Expect.same("defaults done", 1, x.look(0, 1));
        Expect.same("packets", 3, x.count(5));
        Expect.same("rejected", 1, x.count(6));
        Expect.same("tables", 1, x.count(4));
        Expect.goes("the entry", x, 0, "01", 0, "55");
        Expect.goes("the default", x, 0, "03", 0, "09");
    }

    private static void madeUpStays() {
        PacketSwitch x = new PacketSwitch();
        x.match(0, 3, 0);
        x.argument(0, 0x33);
        Expect.same("load", PacketSwitch.NONE, Expect.load(x, SET));
        Expect.same("a fault", 0, Expect.load(x, "x"));
        Expect.same("insert", 0, x.insert(0, 0, 0));
        Expect.goes("what was made up before", x, 0, "03", 0, "33");
    }

    private static void outStays() {
        PacketSwitch x = withEntry();
        Expect.goes("a packet", x, 0, "01 aa", 0, "55 aa");
        Expect.same("load", PacketSwitch.NONE, Expect.load(x, OUT_7));
        Expect.same("OUT", "55aa", Expect.out(x));
        Expect.same("a fault", 0, Expect.load(x, "x"));
        Expect.same("OUT", "55aa", Expect.out(x));
    }

    private static void emptiesTheTape() {
        PacketSwitch x = Expect.loaded(OUT_7);
        Expect.same("the tape is empty", PacketSwitch.REFUSED, x.end(1));
        Expect.same("a fault", 0, Expect.load(x, "x y"));
        Expect.same("the tape is empty again", PacketSwitch.REFUSED, x.end(1));
        Expect.same("a load of nothing", 0, x.load());
        Expect.same("the program stays", 7, x.packet(0));
    }

    private static void nothingOfAnOlderProgram() {
        String rich = "header h { a 8; b 8; } meta m 8; meta n 8; state s { extract h; select h.a { 1: t; 2: u; default: t; } }"
            + " state t { extract h; goto accept; } state u { select h.b { 0: s; default: accept; } }"
            + " action f(p 8, q 8) { h.a = p; } table t { key h.a exact, h.b lpm; actions f; default f(1, 2); } control { apply t; }";
        String poor = "header h { a 8; } state s { extract h; select h.a { 1: accept; 2: reject; } } state u { goto reject; }"
            + " action f() { h.a = 7; } table t { key h.a ternary; actions f; default f(); } control { apply t; }";
        PacketSwitch x = new PacketSwitch();
        for (int i = 0; i < 3; i++) {
            Expect.same("rich", PacketSwitch.NONE, Expect.load(x, rich));
            Expect.goes("rich, case 1", x, 0, "0100 0300", 0, "0100");
            Expect.goes("rich, its default", x, 0, "0500 0300", 0, "0100");
            Expect.same("rich again", PacketSwitch.NONE, Expect.load(x, rich));
            Expect.same("poor", PacketSwitch.NONE, Expect.load(x, poor));
            Expect.goes("poor, case 1", x, 0, "01 05", 0, "07 05");
            Expect.goes("poor, case 2", x, 0, "02 05", PacketSwitch.DROPPED, "");
            Expect.goes("poor, no default", x, 0, "03 05", PacketSwitch.DROPPED, "");
            Expect.same("poor, tables", 1, x.count(4));
            Expect.same("poor, an entry", 0, x.insert(0, 0, 0));
        }
    }

    private static void manyLoads() {
        PacketSwitch x = new PacketSwitch();
        for (int i = 1; i <= 40; i++) {
            String text = "state s { goto accept; } control { out = " + i + "; }";
            Expect.same("load " + i, PacketSwitch.NONE, Expect.load(x, text));
            Expect.same("a fault", text.length() - 1, Expect.load(x, text.substring(0, text.length() - 1)));
            Expect.same("packet " + i, i, x.packet(0));
            Expect.same("packets", 1, x.count(5));
        }
    }
}
