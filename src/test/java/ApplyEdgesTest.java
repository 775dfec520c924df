import java.math.BigInteger;

/** "Terms", apply and ENTRY: which entries match, and which of them is the one. */
public final class ApplyEdgesTest {
    private static final long TOP = (1L << 48) - 1;

    public static void main(String[] args) {
        exactBits();
        prefixBits();
        maskBits();
        eachKey();
        longestPrefix();
        greatestPriority();
        oldest();
        noneMatches();
        anyOfItsActions();
        whatActionsSee();
        whereItGoesOn();
        keysThatAreNotValid();
        manyEntries();
        Expect.finish();
    }

    /** A table over a field of 48 bits and others; its action sets out. */
    private static PacketSwitch table(String keys) {
        return Expect.loaded("header h{a 48;b 8;c 8;}state s{extract h;goto accept;}action set(p 9){out=p;}"
            + "table t{key " + keys + ";actions set;default set(500);}control{apply t;remove h;}");
    }

    private static void entry(PacketSwitch x, int number, long value, long mask, int priority) {
        x.match(0, value, mask);
        x.argument(0, number + 1);
        Expect.same("insert " + value + "/" + mask + " at " + priority, number, x.insert(0, 0, priority));
    }

    private static void finds(PacketSwitch x, long a, int b, int c, int port) {
        String packet = String.format("%012x%02x%02x", a, b, c);
        Expect.goes("key " + packet, x, 0, packet, port, "");
    }

    private static void exactBits() {
        Expect.sentence("exact: all bits");
        for (long value : new long[] {0, 1, 0x800000000000L, 0x5a5a5a5a5a5aL, TOP}) {
            PacketSwitch x = table("h.a exact");
            entry(x, 0, value, 0, 0);
            finds(x, value, 0, 0, 1);
            for (int bit = 0; bit < 48; bit++) {
                finds(x, value ^ 1L << bit, 0, 0, 500);
            }
        }
    }

    private static void prefixBits() {
        Expect.sentence("lpm: the highest as many as its prefix");
        for (int prefix = 0; prefix <= 48; prefix++) {
            PacketSwitch x = table("h.a lpm");
            long value = 0x5a5a5a5a5a5aL & ~((1L << 48 - prefix) - 1);
            entry(x, 0, value, prefix, 0);
            finds(x, value, 0, 0, 1);
            finds(x, value | (1L << 48 - prefix) - 1, 0, 0, 1);
            for (int bit = 0; bit < 48; bit++) {
                boolean counts = bit >= 48 - prefix;
                finds(x, value ^ 1L << bit, 0, 0, counts ? 500 : 1);
            }
        }
    }

    private static void maskBits() {
        Expect.sentence("ternary: those of its mask");
        for (long mask : new long[] {0, 1, 0x800000000000L, 0x0f0f0f0f0f0fL, TOP - 1, TOP}) {
            PacketSwitch x = table("h.a ternary");
            long value = 0x5a5a5a5a5a5bL & mask;
            entry(x, 0, value, mask, 0);
            finds(x, value, 0, 0, 1);
            finds(x, value | ~mask & TOP, 0, 0, 1);
            for (int bit = 0; bit < 48; bit++) {
                boolean counts = (mask >> bit & 1) == 1;
                finds(x, value ^ 1L << bit, 0, 0, counts ? 500 : 1);
            }
        }
    }

    private static void eachKey() {
        Expect.sentence("An ENTRY MATCHES if each key's place is the same as its value");
        PacketSwitch x = table("h.a exact,h.b lpm,h.c ternary");
        x.match(1, 0x80, 1);
        x.match(2, 1, 1);
        entry(x, 0, 7, 0, 0);
        finds(x, 7, 0x80, 1, 1);
        finds(x, 7, 0xff, 0xff, 1);
        finds(x, 6, 0x80, 1, 500);
        finds(x, 7, 0x7f, 1, 500);
        finds(x, 7, 0x80, 0xfe, 500);
        // The same place three times: all that is asked of it must hold.
        x = table("h.b exact,h.b lpm,h.b ternary");
        x.match(1, 0x40, 2);
        x.match(2, 2, 2);
        entry(x, 0, 0x42, 0, 0);
        x.match(1, 0x40, 2);
        x.match(2, 2, 3);
        entry(x, 1, 0x43, 0, 0);
        finds(x, 0, 0x42, 0, 1);
        finds(x, 0, 0x43, 0, 500);
    }

    private static void longestPrefix() {
        Expect.sentence("the one of the longest PREFIX");
        PacketSwitch x = table("h.b lpm");
        for (int prefix = 0; prefix <= 8; prefix++) {
            // The longer a prefix the less its priority: the prefix comes first.
            entry(x, prefix, 0xff & ~((1 << 8 - prefix) - 1), prefix, -prefix);
        }
        for (int prefix = 0; prefix <= 8; prefix++) {
            int first = prefix == 8 ? 0xff : 0xff ^ 1 << 7 - prefix;
            finds(x, 0, first, 0, prefix + 1);
        }
        // The younger a prefix the longer: age does not matter before it, nor where its key stands.
        x = table("h.a ternary,h.b lpm");
        x.match(1, 0x80, 8);
        entry(x, 0, 0, 0, Integer.MIN_VALUE);
        x.match(1, 0x80, 7);
        entry(x, 1, 0, TOP, Integer.MAX_VALUE);
        finds(x, 0, 0x80, 0, 1);
        finds(x, 0, 0x81, 0, 2);
        finds(x, 1, 0x81, 0, 500);
    }

    private static void greatestPriority() {
        Expect.sentence("then of the greatest PRIORITY");
        int[] priorities = {0, -1, Integer.MIN_VALUE, 1, Integer.MAX_VALUE, Integer.MAX_VALUE - 1, Integer.MIN_VALUE + 1};
        for (String kind : new String[] {"h.b ternary", "h.b lpm", "h.b exact"}) {
            PacketSwitch x = table(kind);
            int best = 0;
            for (int i = 0; i < priorities.length; i++) {
                entry(x, i, 0, 0, priorities[i]);
                best = priorities[i] > priorities[best] ? i : best;
                finds(x, 0, 0, 0, best + 1);
            }
            Expect.same("the greatest goes", 6, x.remove(4));
            finds(x, 0, 0, 0, 6);
            x.remove(5);
            finds(x, 0, 0, 0, 4);
            x.remove(3);
            finds(x, 0, 0, 0, 1);
            x.remove(0);
            finds(x, 0, 0, 0, 2);
            x.remove(1);
            finds(x, 0, 0, 0, 7);
            x.remove(6);
            finds(x, 0, 0, 0, 3);
            Expect.same("the last goes", 0, x.remove(2));
            finds(x, 0, 0, 0, 500);
        }
    }

    private static void oldest() {
        Expect.sentence("then the oldest one");
        PacketSwitch x = table("h.b ternary");
        entry(x, 0, 1, 1, 3);
        entry(x, 1, 2, 2, 3);
        entry(x, 2, 4, 4, 3);
        finds(x, 0, 7, 0, 1);
        finds(x, 0, 6, 0, 2);
        x.remove(0);
        finds(x, 0, 7, 0, 2);
        // One that goes and comes again is the youngest.
        entry(x, 3, 1, 1, 3);
        finds(x, 0, 7, 0, 2);
        finds(x, 0, 5, 0, 3);
        finds(x, 0, 1, 0, 4);
    }

    private static void noneMatches() {
        Expect.sentence("if there is none the default");
        PacketSwitch x = table("h.b exact");
        finds(x, 0, 0, 0, 500);
        entry(x, 0, 1, 0, 0);
        finds(x, 0, 0, 0, 500);
        finds(x, 0, 1, 0, 1);
        Expect.same("the default was done", 2, x.look(0, 1));
        x.remove(0);
        finds(x, 0, 1, 0, 500);
        Expect.same("the default was done", 3, x.look(0, 1));
    }

    private static void anyOfItsActions() {
        Expect.sentence("of which the default is one; its action with its ARGUMENTS");
        for (int chosen = 0; chosen < 4; chosen++) {
            PacketSwitch x = Expect.loaded("header h{a 8;}state s{extract h;goto accept;}action e(){drop;}"
                + Texts.times(4, "action f#(p 9){out=out+p+#0;}")
                + "table t{key h.a exact;actions f3,f1,f0,f2;default f" + chosen + "(1);}"
                + "table u{key h.a exact;actions f2,e,f3;default f3(100);}control{apply t;apply u;}");
            Expect.goes("the defaults", x, 0, "09", 10 * chosen + 1 + 130, "09");
            int[] actions = {3, 1, 0, 2};
            for (int i = 0; i < 4; i++) {
                x.match(0, i, 0);
                x.argument(0, i + 2);
                Expect.same("insert", i, x.insert(0, i, 0));
                Expect.goes("an entry's", x, 0, "0" + i, 10 * actions[i] + i + 2 + 130, "0" + i);
            }
            x.argument(0, 50);
            Expect.same("fallback", 0, x.fallback(1, 0));
            Expect.goes("a fallback's", x, 0, "09", 10 * chosen + 1 + 70, "09");
            Expect.same("fallback", 0, x.fallback(1, 1));
            Expect.goes("a fallback's", x, 0, "09", PacketSwitch.DROPPED, "");
        }
    }

    private static void whatActionsSee() {
        Expect.sentence("PARAMETERS, which are known in it alone (they are no metas, and neither out, in nor size)");
        PacketSwitch x = Expect.loaded("header r{p 9;q 9;t 9;i 9;z 9;o 9;m 9;n 9;}" + Texts.times(6, "meta m# 9;")
            + "state s{goto accept;}action f(p 9,q 9,t 9){r.p=p;r.q=q;r.t=t;r.i=in;r.z=size;r.o=out;r.m=m0;r.n=m5;}"
            + "table t{key m0 exact;actions f;default f(101,102,103);}"
            + "control{add r;m0=11;m5=15;out=77;apply t;if(m0!=11||m5!=15||in!=5||size!=3||out!=77||m1+m2+m3+m4!=0){drop;}}");
        BigInteger bits = BigInteger.ZERO;
        for (int field : new int[] {101, 102, 103, 5, 3, 77, 11, 15}) {
            bits = bits.shiftLeft(9).or(BigInteger.valueOf(field));
        }
        Expect.goes("each is its own", x, 5, "aabbcc", 77, String.format("%018x", bits) + "aabbcc");
    }

    private static void whereItGoesOn() {
        Expect.sentence("apply name ; (what stands behind it is done once, and so is each table's action)");
        String start = "header h{a 8;}state s{extract h;goto accept;}action f(p 9){out=out+p;}action e(){}"
            + "table t{key h.a exact;actions f;default f(10);}table u{key h.a exact;actions e;default e();}control{";
        Expect.goes("behind one", Expect.loaded(start + "out=out+1;apply t;out=out+2;}"), 0, "05", 13, "05");
        Expect.goes("behind an empty action", Expect.loaded(start + "apply u;out=out+2;}"), 0, "05", 2, "05");
        Expect.goes("between two", Expect.loaded(start + "apply t;out=out+2;apply t;out=out+3;}"), 0, "05", 25, "05");
        Expect.goes("in an if", Expect.loaded(start + "if(h.a==5){apply t;out=out+1;}else{apply t;apply t;}out=out+2;}"), 0, "05", 13, "05");
        Expect.goes("in an else", Expect.loaded(start + "if(h.a!=5){apply t;out=out+1;}else{apply t;apply t;}out=out+2;}"), 0, "05", 22, "05");
        PacketSwitch x = Expect.loaded(start + "apply t;apply u;apply t;out=out+1;}");
        Expect.goes("three", x, 0, "05", 21, "05");
        Expect.same("each once", 2, x.look(0, 1));
        Expect.same("each once", 1, x.look(1, 1));
        Expect.goes("forty", Expect.loaded(start + Texts.times(40, "apply t;") + "out=out+1;}"), 0, "05", 401, "05");
    }

    private static void keysThatAreNotValid() {
        Expect.sentence("each key's place is the same as its value (a field of a header that is not valid is 0)");
        PacketSwitch x = Expect.loaded("header h{a 8;}header g{a 8;}meta m 8;state s{extract h;goto accept;}action set(p 9){out=p;}"
            + "table t{key g.a exact,m exact;actions set;default set(500);}control{if(h.a==1){add g;g.a=5;m=6;}g.a=g.a+1;apply t;}");
        entry(x, 0, 0, 0, 0);
        x.match(1, 6, 0);
        entry(x, 1, 6, 0, 0);
        Expect.goes("not valid", x, 0, "02", 1, "02");
        Expect.goes("valid", x, 0, "01", 2, "01 06");
    }

    private static void manyEntries() {
        Expect.sentence("of the ENTRIES that match (24 of them)");
        PacketSwitch x = table("h.b ternary");
        for (int i = 0; i < 24; i++) {
            entry(x, i, 0, 0, i);
        }
        finds(x, 0, 9, 0, 24);
        for (int i = 23; i > 0; i--) {
            Expect.same("remove " + i, i, x.remove(i));
            finds(x, 0, 9, 0, i);
        }
    }
}
