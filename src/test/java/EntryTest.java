/** Promises 5 to 9: match, argument, insert, remove and fallback. */
public final class EntryTest {
    private static final String START = "header h { a 8; b 16; c 8; } meta m 4; state s { extract h; goto accept; }"
        + " action one(p 8) { h.c = p; } action none() { drop; } action two(p 4, q 9) { h.c = p; out = q; } ";
    private static final String EXACT = START
        + "table t { key h.a exact; actions one, none, two; default one(255); }"
        + " table u { key h.b exact; actions none; default none(); } control { apply t; }";
    private static final String LPM = START
        + "table t { key h.b lpm; actions one; default one(255); } control { apply t; }";
    private static final String MIXED = START
        + "table t { key h.a exact, h.b lpm, h.c ternary; actions one; default one(255); } control { apply t; }";
    private static final long BIG = 1L << 48;

    public static void main(String[] args) {
        makingUp();
        noSuchTableOrAction();
        refusedValues();
        refusedMasks();
        refusedPrefixes();
        refusedArguments();
        meaningless();
        nothingChangesWhenRefused();
        there();
        full();
        numbers();
        removing();
        fallbacks();
        choosing();
        Expect.finish();
    }

    private static void entry(PacketSwitch x, int due, long value, long mask, long argument, int priority) {
        x.match(0, value, mask);
        x.argument(0, argument);
        Expect.same("insert " + value + "/" + mask + " priority " + priority, due, x.insert(0, 0, priority));
    }

    private static void makingUp() {
        PacketSwitch x = new PacketSwitch();
        for (int k = 0; k < 3; k++) {
            Expect.same("match " + k, k, x.match(k, Long.MIN_VALUE, Long.MAX_VALUE));
            Expect.same("argument " + k, k, x.argument(k, Long.MIN_VALUE));
        }
        int[] others = {-1, 3, 4, Integer.MIN_VALUE, Integer.MAX_VALUE};
        for (int k : others) {
            Expect.same("match " + k, PacketSwitch.REFUSED, x.match(k, 0, 0));
            Expect.same("argument " + k, PacketSwitch.REFUSED, x.argument(k, 0));
        }
        PacketSwitch y = Expect.loaded(EXACT);
        Expect.same("all is 0 at first", 0, y.insert(0, 0, 0));
        Expect.goes("its value and argument", y, 0, "00 0000 77", 0, "00 0000 00");
        y.match(0, 5, 0);
        y.match(0, 6, 0);
        y.argument(0, 1);
        y.argument(0, 2);
        Expect.same("the last ones count", 1, y.insert(0, 0, 0));
        Expect.goes("they do", y, 0, "06 0000 77", 0, "06 0000 02");
        Expect.goes("not the ones before", y, 0, "05 0000 77", 0, "05 0000 ff");
        Expect.same("another one is begun", PacketSwitch.THERE, y.insert(0, 0, 0));
    }

    private static void noSuchTableOrAction() {
        PacketSwitch x = new PacketSwitch();
        Expect.same("insert without a program", PacketSwitch.NONE, x.insert(0, 0, 0));
        Expect.same("fallback without a program", PacketSwitch.NONE, x.fallback(0, 0));
        x = Expect.loaded(EXACT);
        int[][] wrong = {{-1, 0}, {2, 0}, {0, -1}, {0, 3}, {1, 1}, {Integer.MAX_VALUE, 0}, {0, Integer.MIN_VALUE}};
        for (int[] pair : wrong) {
            String what = pair[0] + ", " + pair[1];
            Expect.same("insert " + what, PacketSwitch.NONE, x.insert(pair[0], pair[1], 0));
            Expect.same("fallback " + what, PacketSwitch.NONE, x.fallback(pair[0], pair[1]));
        }
        x.match(0, -1, 0);
        x.argument(0, -1);
        Expect.same("NONE before REFUSED", PacketSwitch.NONE, x.insert(0, 3, 0));
        Expect.same("so for fallback", PacketSwitch.NONE, x.fallback(2, 0));
    }

    private static void refusedValues() {
        PacketSwitch x = Expect.loaded(EXACT);
        entry(x, PacketSwitch.REFUSED, 256, 0, 0, 0);
        entry(x, PacketSwitch.REFUSED, -1, 0, 0, 0);
        entry(x, PacketSwitch.REFUSED, Long.MIN_VALUE, 0, 0, 0);
        entry(x, PacketSwitch.REFUSED, BIG, 0, 0, 0);
        entry(x, PacketSwitch.REFUSED, 1L << 32, 0, 0, 0);
        entry(x, 0, 255, 0, 0, 0);
        x = Expect.loaded(START.replace("h { a 8; b 16;", "h { w 48; a 8; b 16;")
            + "table t { key h.w exact; actions one; default one(1); } control { apply t; }");
        entry(x, PacketSwitch.REFUSED, BIG, 0, 0, 0);
        entry(x, 0, BIG - 1, 0, 7, 0);
        Expect.goes("48 bits", x, 0, "ffffffffffff 00 0000 00", 0, "ffffffffffff 00 0000 07");
    }

    private static void refusedMasks() {
        PacketSwitch x = Expect.loaded(START
            + "table t { key h.a ternary; actions one; default one(255); } control { apply t; }");
        entry(x, PacketSwitch.REFUSED, 0, 256, 0, 0);
        entry(x, PacketSwitch.REFUSED, 0, -1, 0, 0);
        entry(x, PacketSwitch.REFUSED, 1, -1, 0, 0);
        entry(x, PacketSwitch.REFUSED, 2, 1, 0, 0);
        entry(x, PacketSwitch.REFUSED, 256, 256, 0, 0);
        entry(x, PacketSwitch.REFUSED, 3, 1, 0, 0);
        entry(x, 0, 1, 1, 0, 0);
        entry(x, 1, 0, 255, 0, 0);
        entry(x, 2, 255, 255, 0, 0);
        entry(x, 3, 0, 0, 0, 0);
    }

    private static void refusedPrefixes() {
        PacketSwitch x = Expect.loaded(LPM);
        entry(x, PacketSwitch.REFUSED, 0, -1, 0, 0);
        entry(x, PacketSwitch.REFUSED, 0, 17, 0, 0);
        entry(x, PacketSwitch.REFUSED, 0, (1L << 32) + 1, 0, 0);
        entry(x, PacketSwitch.REFUSED, 1, 15, 0, 0);
        entry(x, PacketSwitch.REFUSED, 0x100, 7, 0, 0);
        entry(x, PacketSwitch.REFUSED, 0x8000, 0, 0, 0);
        entry(x, PacketSwitch.REFUSED, 0x10000, 16, 0, 0);
        entry(x, 0, 1, 16, 0, 0);
        entry(x, 1, 0x100, 8, 0, 0);
        entry(x, 2, 0x8000, 1, 0, 0);
        entry(x, 3, 0, 0, 0, 0);
    }

    private static void refusedArguments() {
        PacketSwitch x = Expect.loaded(EXACT);
        entry(x, PacketSwitch.REFUSED, 0, 0, 256, 0);
        entry(x, PacketSwitch.REFUSED, 0, 0, -1, 0);
        entry(x, PacketSwitch.REFUSED, 0, 0, 1L << 40, 0);
        x.argument(0, 15);
        x.argument(1, 512);
        Expect.same("the second one", PacketSwitch.REFUSED, x.insert(0, 2, 0));
        Expect.same("for fallback", PacketSwitch.REFUSED, x.fallback(0, 2));
        x.argument(1, 511);
        x.argument(0, 16);
        Expect.same("the first one", PacketSwitch.REFUSED, x.insert(0, 2, 0));
        Expect.same("for fallback", PacketSwitch.REFUSED, x.fallback(0, 2));
        Expect.same("it is in the range of another action", 0, x.insert(0, 0, 0));
    }

    private static void meaningless() {
        PacketSwitch x = Expect.loaded(EXACT);
        x.match(0, 1, -77);
        x.match(1, -1, -1);
        x.match(2, BIG, BIG);
        x.argument(0, 2);
        x.argument(1, -1);
        x.argument(2, BIG);
        Expect.same("the rest is not looked at", 0, x.insert(0, 0, 0));
        x.match(0, 1, 5);
        x.match(1, 6, 6);
        Expect.same("nor compared", PacketSwitch.THERE, x.insert(0, 0, 0));
        x.match(0, 2, 0);
        x.argument(0, -1);
        x.argument(1, -1);
        Expect.same("no parameters", 1, x.insert(0, 1, 0));
        x.match(0, -1, -1);
        x.argument(1, -1);
        Expect.same("keys mean nothing to fallback", 0, x.fallback(0, 0));
    }

    private static void nothingChangesWhenRefused() {
        PacketSwitch x = Expect.loaded(EXACT);
        x.match(0, 4, 0);
        x.argument(0, 44);
        x.argument(1, 600);
        Expect.same("refused", PacketSwitch.REFUSED, x.insert(0, 2, 0));
        Expect.same("no table", PacketSwitch.NONE, x.insert(9, 2, 0));
        Expect.same("fallback refused", PacketSwitch.REFUSED, x.fallback(0, 2));
        Expect.same("no entry", 0, x.look(0, 0));
        Expect.same("all is still made up", 0, x.insert(0, 0, 0));
        Expect.goes("it is", x, 0, "04 0000 00", 0, "04 0000 2c");
        Expect.goes("the default is too", x, 0, "05 0000 00", 0, "05 0000 ff");
    }

    private static void there() {
        PacketSwitch x = Expect.loaded(EXACT);
        entry(x, 0, 1, 0, 10, 5);
        entry(x, PacketSwitch.THERE, 1, 99, 11, 5);
        Expect.same("with another action", PacketSwitch.THERE, x.insert(0, 1, 5));
        Expect.same("another priority", 1, x.insert(0, 0, 6));
        entry(x, 2, 1, 0, 10, Integer.MIN_VALUE);
        x.match(0, 1, 0);
        Expect.same("another table", 3, x.insert(1, 0, 5));
        x = Expect.loaded(LPM);
        entry(x, 0, 0, 8, 1, 0);
        entry(x, 1, 0, 9, 1, 0);
        entry(x, PacketSwitch.THERE, 0, 8, 2, 0);
        x = Expect.loaded(MIXED);
        x.match(1, 0x8000, 1);
        x.match(2, 1, 1);
        Expect.same("three keys", 0, x.insert(0, 0, 0));
        x.match(1, 0x8000, 1);
        x.match(2, 1, 3);
        Expect.same("another mask", 1, x.insert(0, 0, 0));
        x.match(1, 0x8000, 2);
        x.match(2, 1, 3);
        Expect.same("another prefix", 2, x.insert(0, 0, 0));
        x.match(0, 0, 8);
        x.match(1, 0x8000, 2);
        x.match(2, 1, 3);
        Expect.same("the same but for an exact key's mask", PacketSwitch.THERE, x.insert(0, 0, 0));
    }

    private static void full() {
        PacketSwitch x = Expect.loaded(EXACT);
        for (int i = 0; i < 24; i++) {
            entry(x, i, i, 0, i, 0);
        }
        entry(x, PacketSwitch.FULL, 24, 0, 1, 0);
        entry(x, PacketSwitch.THERE, 23, 0, 1, 0);
        entry(x, PacketSwitch.REFUSED, 256, 0, 1, 0);
        Expect.same("entries", 24, x.look(0, 0));
        x.match(0, 500, 0);
        Expect.same("the other table has room", 24, x.insert(1, 0, 0));
        Expect.same("one goes", 23, x.remove(7));
        entry(x, 25, 24, 0, 99, 0);
        entry(x, PacketSwitch.FULL, 7, 0, 1, 0);
        Expect.goes("the last one", x, 0, "18 0000 00", 0, "18 0000 63");
        Expect.goes("the one that went", x, 0, "07 0000 00", 0, "07 0000 ff");
    }

    private static void numbers() {
        PacketSwitch x = Expect.loaded(EXACT);
        for (int i = 0; i < 60; i++) {
            entry(x, i, 1, 0, 0, 0);
            entry(x, PacketSwitch.THERE, 1, 0, 0, 0);
            Expect.same("remove " + i, 0, x.remove(i));
        }
        Expect.same("load", PacketSwitch.NONE, Expect.load(x, EXACT));
        entry(x, 0, 1, 0, 0, 0);
    }

    private static void removing() {
        PacketSwitch x = Expect.loaded(EXACT);
        entry(x, 0, 1, 0, 11, 0);
        entry(x, 1, 2, 0, 12, 0);
        x.match(0, 3, 0);
        Expect.same("in the other table", 2, x.insert(1, 0, 0));
        int[] wrong = {-1, 3, Integer.MIN_VALUE, Integer.MAX_VALUE};
        for (int number : wrong) {
            Expect.same("remove " + number, PacketSwitch.NONE, x.remove(number));
        }
        Expect.same("remove 0", 1, x.remove(0));
        Expect.same("remove 0 again", PacketSwitch.NONE, x.remove(0));
        Expect.same("remove 2", 0, x.remove(2));
        Expect.goes("gone", x, 0, "01 0000 00", 0, "01 0000 ff");
        Expect.goes("not gone", x, 0, "02 0000 00", 0, "02 0000 0c");
        Expect.same("remove 1", 0, x.remove(1));
        Expect.goes("gone, too", x, 0, "02 0000 00", 0, "02 0000 ff");
    }

    private static void fallbacks() {
        PacketSwitch x = Expect.loaded(EXACT);
        x.match(0, 1, 0);
        x.argument(0, 14);
        x.argument(1, 300);
        Expect.same("fallback", 0, x.fallback(0, 2));
        Expect.goes("it is done", x, 0, "01 0000 00", 300, "01 0000 0e");
        Expect.same("another entry is begun", 0, x.insert(0, 0, 0));
        Expect.goes("with nothing in it", x, 0, "00 0000 77", 0, "00 0000 00");
        Expect.same("without arguments", 0, x.fallback(0, 1));
        Expect.goes("dropped", x, 0, "01 0000 00", PacketSwitch.DROPPED, "");
        Expect.same("again", 0, x.fallback(0, 0));
        Expect.goes("its argument is 0", x, 0, "01 0000 77", 0, "01 0000 00");
        Expect.same("defaults done", 3, x.look(0, 1));
        Expect.same("a new program", PacketSwitch.NONE, Expect.load(x, EXACT));
        Expect.goes("has its own", x, 0, "01 0000 77", 0, "01 0000 ff");
        x = Expect.loaded(LPM);
        x.match(0, 0, 16);
        Expect.same("fallback", 0, x.fallback(0, 0));
        Expect.same("the prefix is 0 again", 0, x.insert(0, 0, 0));
        Expect.goes("it is", x, 0, "01 ffff 77", 0, "01 ffff 00");
        Expect.same("by its entry", 1, x.hits(0));
    }

    private static void choosing() {
        PacketSwitch x = Expect.loaded(LPM);
        entry(x, 0, 0, 0, 1, 9);
        entry(x, 1, 0x8000, 1, 2, 8);
        entry(x, 2, 0x8100, 8, 3, -8);
        entry(x, 3, 0x8100, 8, 4, -7);
        entry(x, 4, 0x8101, 16, 5, -9);
        Expect.goes("no bits", x, 0, "00 7fff 00", 0, "00 7fff 01");
        Expect.goes("one bit", x, 0, "00 8001 00", 0, "00 8001 02");
        Expect.goes("eight bits, the greater priority", x, 0, "00 8102 00", 0, "00 8102 04");
        Expect.goes("all bits", x, 0, "00 8101 00", 0, "00 8101 05");
        x = Expect.loaded(START
            + "table t { key h.a ternary; actions one; default one(255); } control { apply t; }");
        entry(x, 0, 1, 1, 1, 5);
        entry(x, 1, 2, 2, 2, 5);
        entry(x, 2, 4, 4, 3, 6);
        Expect.goes("the oldest", x, 0, "03 0000 00", 0, "03 0000 01");
        Expect.goes("the greatest priority", x, 0, "07 0000 00", 0, "07 0000 03");
        Expect.same("the oldest goes", 2, x.remove(0));
        entry(x, 3, 1, 1, 4, 5);
        Expect.goes("the oldest is another", x, 0, "03 0000 00", 0, "03 0000 02");
        Expect.goes("none", x, 0, "08 0000 00", 0, "08 0000 ff");
        x = Expect.loaded(MIXED);
        x.match(0, 7, 0);
        x.match(1, 0xab00, 8);
        x.match(2, 0x10, 0xf0);
        x.argument(0, 1);
        Expect.same("three keys", 0, x.insert(0, 0, 1));
        x.match(0, 7, 0);
        x.match(1, 0xab80, 9);
        x.argument(0, 2);
        Expect.same("a longer prefix", 1, x.insert(0, 0, 0));
        Expect.goes("all three", x, 0, "07 ab7f 1f", 0, "07 ab7f 01");
        Expect.goes("the longer prefix", x, 0, "07 ab80 1f", 0, "07 ab80 02");
        Expect.goes("not the first", x, 0, "06 ab80 1f", 0, "06 ab80 ff");
        Expect.goes("not the second", x, 0, "07 aa80 1f", 0, "07 aa80 ff");
        Expect.goes("not the third", x, 0, "07 ab7f 2f", 0, "07 ab7f ff");
    }
}
