/** "Terms", apply and ENTRY: which entries match, and which of them is the one. */
public final class ApplyEdgesTest {
    private static final long TOP = (1L << 48) - 1;

    public static void main(String[] args) {
        exactBits();
        prefixBits();
        maskBits();
        eachKey();
        longestPrefix();
        greatestPriority();
        oldest();
        noneMatches();
        keysThatAreNotValid();
        manyEntries();
        Expect.finish();
    }

    /** A table over a field of 48 bits and others; its action sets out. */
    private static PacketSwitch table(String keys) {
        return Expect.loaded("header h{a 48;b 8;c 8;}state s{extract h;goto accept;}action set(p 9){out=p;}"
            + "table t{key " + keys + ";actions set;default set(500);}control{apply t;remove h;}");
    }

    private static void entry(PacketSwitch x, int number, long value, long mask, int priority) {
        x.match(0, value, mask);
        x.argument(0, number + 1);
        Expect.same("insert " + value + "/" + mask + " at " + priority, number, x.insert(0, 0, priority));
    }

    private static void finds(PacketSwitch x, long a, int b, int c, int port) {
        String packet = String.format("%012x%02x%02x", a, b, c);
        Expect.goes("key " + packet, x, 0, packet, port, "");
    }

    private static void exactBits() {
        Expect.sentence("exact: all bits");
        for (long value : new long[] {0, 1, 0x800000000000L, 0x5a5a5a5a5a5aL, TOP}) {
            PacketSwitch x = table("h.a exact");
            entry(x, 0, value, 0, 0);
            finds(x, value, 0, 0, 1);
            for (int bit = 0; bit < 48; bit++) {
                finds(x, value ^ 1L << bit, 0, 0, 500);
            }
        }
    }

    private static void prefixBits() {
        Expect.sentence("lpm: the highest as many as its prefix");
        for (int prefix = 0; prefix <= 48; prefix++) {
            PacketSwitch x = table("h.a lpm");
            long value = 0x5a5a5a5a5a5aL & ~((1L << 48 - prefix) - 1);
            entry(x, 0, value, prefix, 0);
            finds(x, value, 0, 0, 1);
            finds(x, value | (1L << 48 - prefix) - 1, 0, 0, 1);
            for (int bit = 0; bit < 48; bit++) {
                boolean counts = bit >= 48 - prefix;
                finds(x, value ^ 1L << bit, 0, 0, counts ? 500 : 1);
            }
        }
    }

    private static void maskBits() {
        Expect.sentence("ternary: those of its mask");
        for (long mask : new long[] {0, 1, 0x800000000000L, 0x0f0f0f0f0f0fL, TOP - 1, TOP}) {
            PacketSwitch x = table("h.a ternary");
            long value = 0x5a5a5a5a5a5bL & mask;
            entry(x, 0, value, mask, 0);
            finds(x, value, 0, 0, 1);
            finds(x, value | ~mask & TOP, 0, 0, 1);
            for (int bit = 0; bit < 48; bit++) {
                boolean counts = (mask >> bit & 1) == 1;
                finds(x, value ^ 1L << bit, 0, 0, counts ? 500 : 1);
            }
        }
    }

    private static void eachKey() {
        Expect.sentence("An ENTRY MATCHES if each key's place is the same as its value");
        PacketSwitch x = table("h.a exact,h.b lpm,h.c ternary");
        x.match(1, 0x80, 1);
        x.match(2, 1, 1);
        entry(x, 0, 7, 0, 0);
        finds(x, 7, 0x80, 1, 1);
        finds(x, 7, 0xff, 0xff, 1);
        finds(x, 6, 0x80, 1, 500);
        finds(x, 7, 0x7f, 1, 500);
        finds(x, 7, 0x80, 0xfe, 500);
        // The same place three times: all that is asked of it must hold.
        x = table("h.b exact,h.b lpm,h.b ternary");
        x.match(1, 0x40, 2);
        x.match(2, 2, 2);
        entry(x, 0, 0x42, 0, 0);
        x.match(1, 0x40, 2);
        x.match(2, 2, 3);
        entry(x, 1, 0x43, 0, 0);
        finds(x, 0, 0x42, 0, 1);
        finds(x, 0, 0x43, 0, 500);
    }

    private static void longestPrefix() {
        Expect.sentence("the one of the longest PREFIX");
        PacketSwitch x = table("h.b lpm");
        for (int prefix = 0; prefix <= 8; prefix++) {
            // The longer a prefix the less its priority: the prefix comes first.
            entry(x, prefix, 0xff & ~((1 << 8 - prefix) - 1), prefix, -prefix);
        }
        for (int prefix = 0; prefix <= 8; prefix++) {
            int first = prefix == 8 ? 0xff : 0xff ^ 1 << 7 - prefix;
            finds(x, 0, first, 0, prefix + 1);
        }
        // The younger a prefix the longer: age does not matter before it, nor where its key stands.
        x = table("h.a ternary,h.b lpm");
        x.match(1, 0x80, 8);
        entry(x, 0, 0, 0, Integer.MIN_VALUE);
        x.match(1, 0x80, 7);
        entry(x, 1, 0, TOP, Integer.MAX_VALUE);
        finds(x, 0, 0x80, 0, 1);
        finds(x, 0, 0x81, 0, 2);
        finds(x, 1, 0x81, 0, 500);
    }

    private static void greatestPriority() {
        Expect.sentence("then of the greatest PRIORITY");
        int[] priorities = {0, -1, Integer.MIN_VALUE, 1, Integer.MAX_VALUE, Integer.MAX_VALUE - 1, Integer.MIN_VALUE + 1};
        for (String kind : new String[] {"h.b ternary", "h.b lpm", "h.b exact"}) {
            PacketSwitch x = table(kind);
            int best = 0;
            for (int i = 0; i < priorities.length; i++) {
                entry(x, i, 0, 0, priorities[i]);
                best = priorities[i] > priorities[best] ? i : best;
                finds(x, 0, 0, 0, best + 1);
            }
            Expect.same("the greatest goes", 6, x.remove(4));
            finds(x, 0, 0, 0, 6);
            x.remove(5);
            finds(x, 0, 0, 0, 4);
            x.remove(3);
            finds(x, 0, 0, 0, 1);
            x.remove(0);
            finds(x, 0, 0, 0, 2);
            x.remove(1);
            finds(x, 0, 0, 0, 7);
            x.remove(6);
            finds(x, 0, 0, 0, 3);
            Expect.same("the last goes", 0, x.remove(2));
            finds(x, 0, 0, 0, 500);
        }
    }

    private static void oldest() {
        Expect.sentence("then the oldest one");
        PacketSwitch x = table("h.b ternary");
        entry(x, 0, 1, 1, 3);
        entry(x, 1, 2, 2, 3);
        entry(x, 2, 4, 4, 3);
        finds(x, 0, 7, 0, 1);
        finds(x, 0, 6, 0, 2);
        x.remove(0);
        finds(x, 0, 7, 0, 2);
        // One that goes and comes again is the youngest.
        entry(x, 3, 1, 1, 3);
        finds(x, 0, 7, 0, 2);
        finds(x, 0, 5, 0, 3);
        finds(x, 0, 1, 0, 4);
    }

    private static void noneMatches() {
        Expect.sentence("if there is none the default");
        PacketSwitch x = table("h.b exact");
        finds(x, 0, 0, 0, 500);
        entry(x, 0, 1, 0, 0);
        finds(x, 0, 0, 0, 500);
        finds(x, 0, 1, 0, 1);
        Expect.same("the default was done", 2, x.look(0, 1));
        x.remove(0);
        finds(x, 0, 1, 0, 500);
        Expect.same("the default was done", 3, x.look(0, 1));
    }

    private static void keysThatAreNotValid() {
        Expect.sentence("each key's place is the same as its value (a field of a header that is not valid is 0)");
        PacketSwitch x = Expect.loaded("header h{a 8;}header g{a 8;}meta m 8;state s{extract h;goto accept;}action set(p 9){out=p;}"
            + "table t{key g.a exact,m exact;actions set;default set(500);}control{if(h.a==1){add g;g.a=5;m=6;}g.a=g.a+1;apply t;}");
        entry(x, 0, 0, 0, 0);
        x.match(1, 6, 0);
        entry(x, 1, 6, 0, 0);
        Expect.goes("not valid", x, 0, "02", 1, "02");
        Expect.goes("valid", x, 0, "01", 2, "01 06");
    }

    private static void manyEntries() {
        Expect.sentence("of the ENTRIES that match (24 of them)");
        PacketSwitch x = table("h.b ternary");
        for (int i = 0; i < 24; i++) {
            entry(x, i, 0, 0, i);
        }
        finds(x, 0, 9, 0, 24);
        for (int i = 23; i > 0; i--) {
            Expect.same("remove " + i, i, x.remove(i));
            finds(x, 0, 9, 0, i);
        }
    }
}
