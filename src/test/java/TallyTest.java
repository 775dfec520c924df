/** Promises 12 to 14: hits, look and count. */
public final class TallyTest {
    private static final String TEXT = "header h { v 8; } header g { v 8; } meta m 4; meta n 4; meta o 4;"
        + " state s { extract h; select h.v { 9: reject; 8: t; default: accept; } }"
        + " state t { goto u; } state u { goto v; } state v { goto accept; }"
        + " action a() {} action b() { drop; } action c() {} action d() {} action e() {}"
        + " table k { key h.v ternary; actions a, b; default a(); }"
        + " table l { key h.v exact; actions b; default b(); }"
        + " table r { key h.v exact; actions b; default b(); }"
        + " control { apply k; if (h.v == 7) { apply k; apply l; } }";

    public static void main(String[] args) {
        counts();
        hits();
        looks();
        Expect.finish();
    }

    private static void counts() {
        PacketSwitch x = Expect.loaded(TEXT);
        int[] due = {2, 3, 4, 5, 3, 0, 0};
        for (int what = 0; what < due.length; what++) {
            Expect.same("count " + what, due[what], x.count(what));
        }
        int[] wrong = {-1, 7, Integer.MIN_VALUE, Integer.MAX_VALUE};
        for (int what : wrong) {
            Expect.same("count " + what, PacketSwitch.REFUSED, x.count(what));
            Expect.same("without a program", PacketSwitch.REFUSED, new PacketSwitch().count(what));
        }
        Expect.packet(x, 0, "01");
        Expect.packet(x, 0, "07");
        Expect.same("packets, one of them dropped", 2, x.count(5));
        Expect.same("rejected", 0, x.count(6));
        Expect.packet(x, 0, "09");
        Expect.packet(x, 0, "");
        Expect.same("packets", 4, x.count(5));
        Expect.same("rejected", 2, x.count(6));
        Expect.same("a port that is none", PacketSwitch.REFUSED, x.packet(512));
        Expect.same("does not count", 4, x.count(5));
        Expect.same("nor does a fault", 0, Expect.load(x, "?"));
        Expect.same("change that", 4, x.count(5));
        Expect.same("another program", PacketSwitch.NONE, Expect.load(x, TEXT));
        Expect.same("begins at 0", 0, x.count(5));
        Expect.same("for both", 0, x.count(6));
    }

    private static void hits() {
        PacketSwitch x = Expect.loaded(TEXT);
        x.match(0, 1, 1);
        Expect.same("insert", 0, x.insert(0, 0, 1));
        x.match(0, 2, 2);
        Expect.same("insert", 1, x.insert(0, 1, 2));
        Expect.same("no hits yet", 0, x.hits(0));
        Expect.packet(x, 0, "01");
        Expect.packet(x, 0, "05");
        Expect.packet(x, 0, "03");
        Expect.packet(x, 0, "07");
        Expect.same("only where it was the one", 2, x.hits(0));
        Expect.same("twice in a packet, dropped or not", 3, x.hits(1));
        int[] wrong = {-1, 2, Integer.MIN_VALUE, Integer.MAX_VALUE};
        for (int entry : wrong) {
            Expect.same("hits " + entry, PacketSwitch.NONE, x.hits(entry));
        }
        PacketSwitch four = Expect.loaded(TEXT.replace("control",
            "table q { key h.v exact; actions b; default b(); } control"));
        Expect.same("four tables", 4, four.count(4));
        Expect.same("no entry in them", PacketSwitch.NONE, four.hits(0));
        Expect.same("remove", 1, x.remove(1));
        Expect.same("hits of none", PacketSwitch.NONE, x.hits(1));
        Expect.packet(x, 0, "03");
        Expect.same("the other goes on", 3, x.hits(0));
        x.match(0, 2, 2);
        Expect.same("insert anew", 2, x.insert(0, 1, 2));
        Expect.same("it begins at 0", 0, x.hits(2));
    }

    private static void looks() {
        PacketSwitch x = Expect.loaded(TEXT);
        x.match(0, 1, 1);
        x.insert(0, 0, 0);
        x.match(0, 7, 0);
        x.insert(1, 0, 0);
        Expect.same("entries", 1, x.look(0, 0));
        Expect.same("entries of the next", 1, x.look(1, 0));
        Expect.same("of the last", 0, x.look(2, 0));
        Expect.packet(x, 0, "02");
        Expect.packet(x, 0, "04");
        Expect.packet(x, 0, "07");
        Expect.packet(x, 0, "09");
        Expect.same("defaults done", 2, x.look(0, 1));
        Expect.same("none of the next", 0, x.look(1, 1));
        Expect.same("fallback", 0, x.fallback(0, 1));
        Expect.same("does not begin anew", 2, x.look(0, 1));
        Expect.packet(x, 0, "02");
        Expect.same("and counts on", 3, x.look(0, 1));
        int[] wrong = {-1, 3, Integer.MIN_VALUE, Integer.MAX_VALUE};
        for (int table : wrong) {
            Expect.same("look at " + table, PacketSwitch.NONE, x.look(table, 0));
            Expect.same("look at " + table, PacketSwitch.NONE, x.look(table, 1));
            Expect.same("REFUSED first", PacketSwitch.REFUSED, x.look(table, 2));
        }
        Expect.same("what -1", PacketSwitch.REFUSED, x.look(0, -1));
        Expect.same("what 2", PacketSwitch.REFUSED, x.look(0, 2));
        Expect.same("without a program", PacketSwitch.REFUSED, new PacketSwitch().look(0, 2));
        Expect.same("a new program", PacketSwitch.NONE, Expect.load(x, TEXT));
        Expect.same("begins at 0", 0, x.look(0, 1));
    }
}
