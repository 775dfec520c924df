/** Promises 1 to 4 and 10 to 14: the edges that each sentence names. */
public final class CallEdgesTest {
    private static final String PASS = "state s{goto accept;}control{out=in;}";
    private static final String TABLES = "header h{a 8;}action f(){}action g(){drop;}" + Texts.times(4, "table t#{key h.a exact;actions f,g;default f();}")
        + "state s{extract h;select h.a{255:reject;default:accept;}}control{" + Texts.times(4, "apply t#;") + "}";
    private static final int[] FAR = {Integer.MIN_VALUE, -1000, -2, 1000, Integer.MAX_VALUE};

    public static void main(String[] args) {
        noProgram();
        feedOrder();
        feedFull();
        ends();
        emptiedTape();
        loads();
        packetOfOtherPort();
        packetOfTooMany();
        packetWithoutProgram();
        packetThatIsDropped();
        octets();
        hits();
        looks();
        counts();
        Expect.finish();
    }

    private static void hasNoProgram(PacketSwitch x) {
        for (int what = 0; what <= 6; what++) {
            Expect.same("count " + what, 0, x.count(what));
        }
        for (int i = -1; i <= 4; i++) {
            Expect.same("look " + i, PacketSwitch.NONE, x.look(i, 0));
            Expect.same("look " + i, PacketSwitch.NONE, x.look(i, 1));
            Expect.same("hits " + i, PacketSwitch.NONE, x.hits(i));
            Expect.same("remove " + i, PacketSwitch.NONE, x.remove(i));
            Expect.same("insert " + i, PacketSwitch.NONE, x.insert(i, 0, 0));
            Expect.same("fallback " + i, PacketSwitch.NONE, x.fallback(i, 0));
        }
        Expect.same("packet", PacketSwitch.NONE, x.packet(0));
        Expect.same("OUT", 0, x.octet(-1));
        Expect.same("its first byte", PacketSwitch.NONE, x.octet(0));
    }

    private static void noProgram() {
        Expect.sentence("PacketSwitch(): No program");
        PacketSwitch x = new PacketSwitch();
        hasNoProgram(x);
        Expect.same("a fault", 0, x.load());
        Expect.same("a fault", 21, Expect.load(x, Texts.STATE + "$"));
        hasNoProgram(x);
        Expect.same("a program", PacketSwitch.NONE, Expect.load(x, PASS));
        Expect.same("states", 1, x.count(2));
    }

    private static void feedOrder() {
        Expect.sentence("Twenty bytes, five times four, the highest of each first, come to the TAPE: how many it has");
        PacketSwitch x = Expect.loaded(PASS);
        Expect.same("feed", 20, x.feed(0x01020304, 0x05060708, 0x090a0b0c, 0x0d0e0f10, 0x11121314));
        Expect.same("feed", 40, x.feed(0x80ff7f00, -1, 0, Integer.MIN_VALUE, Integer.MAX_VALUE));
        Expect.same("end", 40, x.end(40));
        Expect.same("packet", 0, x.packet(0));
        Expect.same("OUT", "0102030405060708090a0b0c0d0e0f1011121314" + "80ff7f00ffffffff00000000800000007fffffff", Expect.out(x));
        // Behind a cut the bytes come to where it was.
        for (int cut = 0; cut <= 20; cut++) {
            x = Expect.loaded(PASS);
            x.feed(-1, -1, -1, -1, -1);
            Expect.same("end", cut, x.end(cut));
            Expect.same("feed", cut + 20, x.feed(0x01020304, 0, 0, 0, 0x05060708));
            x.packet(0);
            Expect.same("OUT", "ff".repeat(cut) + "01020304" + "00".repeat(12) + "05060708", Expect.out(x));
        }
    }

    private static PacketSwitch full(int feeds) {
        PacketSwitch x = new PacketSwitch();
        for (int i = 1; i <= feeds; i++) {
            Expect.same("feed", 20 * i, x.feed(0x20202020, 0x20202020, 0x20202020, 0x20202020, 0x20202020));
        }
        return x;
    }

    private static void feedFull() {
        Expect.sentence("FULL if it would have more than 2000");
        for (int length = 1975; length <= 2000; length++) {
            PacketSwitch x = full(100);
            Expect.same("end", length, x.end(length));
            boolean fits = length <= 1980;
            Expect.same("feed at " + length, fits ? length + 20 : PacketSwitch.FULL, x.feed(0x24242424, 0, 0, 0, 0));
            Expect.same("feed again", PacketSwitch.FULL, x.feed(0x24242424, 0, 0, 0, 0));
            // Blanks begin no token: the fault is where another byte stands, or the end.
            Expect.same("load", length, x.load());
        }
    }

    private static void ends() {
        Expect.sentence("The TAPE is cut to its first n bytes: n; REFUSED if it has less, or n is below 0");
        for (int feeds : new int[] {0, 1, 2, 99, 100}) {
            PacketSwitch x = full(feeds);
            int length = 20 * feeds;
            for (int wrong : new int[] {-1, length + 1, length + 20, 2001, Integer.MIN_VALUE, Integer.MAX_VALUE}) {
                Expect.same("end " + wrong + " of " + length, PacketSwitch.REFUSED, x.end(wrong));
            }
            Expect.same("end of all", length, x.end(length));
            for (int less = length - 1; less >= Math.max(0, length - 3); less--) {
                Expect.same("end " + less, less, x.end(less));
                Expect.same("end " + (less + 1), PacketSwitch.REFUSED, x.end(less + 1));
            }
            Expect.same("end 0", 0, x.end(0));
            Expect.same("end 1", PacketSwitch.REFUSED, x.end(1));
            Expect.same("end 0", 0, x.end(0));
            Expect.same("feed", 20, x.feed(0, 0, 0, 0, 0));
        }
    }

    private static void isEmpty(PacketSwitch x) {
        Expect.same("the tape has none", PacketSwitch.REFUSED, x.end(1));
        Expect.same("feed", 20, x.feed(0, 0, 0, 0, 0));
        Expect.same("end", 0, x.end(0));
    }

    private static void emptiedTape() {
        Expect.sentence("calls that read it empty it");
        PacketSwitch x = new PacketSwitch();
        Expect.same("packet without a program", PacketSwitch.NONE, Expect.packet(x, 0, "0102"));
        isEmpty(x);
        Expect.same("load with a fault", 3, Expect.load(x, "   x"));
        isEmpty(x);
        Expect.same("load", PacketSwitch.NONE, Expect.load(x, TABLES));
        isEmpty(x);
        Expect.same("packet", 0, Expect.packet(x, 0, "0102"));
        isEmpty(x);
        Expect.same("packet that is rejected", PacketSwitch.DROPPED, Expect.packet(x, 0, "ff02"));
        isEmpty(x);
        x.fallback(0, 1);
        Expect.same("packet that is dropped", PacketSwitch.DROPPED, Expect.packet(x, 0, "0102"));
        isEmpty(x);
    }

    private static void loads() {
        Expect.sentence("The TAPE as a text becomes the program, without entries: NONE");
        PacketSwitch x = Expect.loaded(TABLES);
        for (int table = 0; table < 4; table++) {
            Expect.same("insert", table, x.insert(table, 0, 0));
        }
        Expect.same("load", PacketSwitch.NONE, Expect.load(x, TABLES));
        for (int table = 0; table < 4; table++) {
            Expect.same("entries", 0, x.look(table, 0));
            Expect.same("hits", PacketSwitch.NONE, x.hits(table));
        }
        Expect.same("the first one", 0, x.insert(0, 0, 0));
        Expect.sentence("(what is made up by match and argument stays, OUT, too)");
        x = Expect.loaded("header h{a 8;}action f(p 9){out=p;}table t{key h.a exact;actions f;default f(1);}"
            + "state s{extract h;goto accept;}control{apply t;}");
        Expect.goes("a packet", x, 0, "0102", 1, "0102");
        x.match(0, 5, 0);
        x.argument(0, 77);
        Expect.same("another program", PacketSwitch.NONE, Expect.load(x, "header h{a 8;}action f(p 7){out=p;}"
            + "table t{key h.a exact;actions f;default f(2);}state s{extract h;goto accept;}control{apply t;}"));
        Expect.same("OUT stays", "0102", Expect.out(x));
        Expect.same("insert", 0, x.insert(0, 0, 0));
        Expect.goes("what was made up", x, 0, "05", 77, "05");
        Expect.goes("the default", x, 0, "06", 2, "06");
        Expect.sentence("Its FAULT if it has one: the program and the entries stay");
        Expect.same("a fault", 10, Expect.load(x, "meta m 8; $"));
        Expect.same("a fault of nothing", 0, x.load());
        Expect.goes("the entry", x, 0, "05", 77, "05");
        Expect.goes("the default", x, 0, "06", 2, "06");
        Expect.same("hits", 2, x.hits(0));
    }

    private static void packetOfOtherPort() {
        Expect.sentence("REFUSED for another port (the TAPE stays; OUT stays)");
        PacketSwitch x = Expect.loaded(PASS);
        Expect.goes("a packet", x, 511, "0102", 511, "0102");
        Expect.tape(x, Expect.hex("030405"));
        for (int port : new int[] {-1, 512, Integer.MIN_VALUE, Integer.MAX_VALUE}) {
            Expect.same("port " + port, PacketSwitch.REFUSED, x.packet(port));
            Expect.same("the tape stays", 3, x.end(3));
            Expect.same("OUT stays", "0102", Expect.out(x));
            Expect.same("none came", 1, x.count(5));
        }
        Expect.same("port 0", 0, x.packet(0));
        Expect.same("OUT", "030405", Expect.out(x));
        Expect.same("a packet came", 2, x.count(5));
    }

    private static void packetOfTooMany() {
        Expect.sentence("REFUSED for more than 200 bytes (the TAPE stays; OUT stays)");
        PacketSwitch x = Expect.loaded(PASS);
        Expect.goes("a packet", x, 3, "0102", 3, "0102");
        Expect.tape(x, new byte[201]);
        Expect.same("201 bytes", PacketSwitch.REFUSED, x.packet(0));
        Expect.same("both", PacketSwitch.REFUSED, x.packet(512));
        Expect.same("OUT stays", "0102", Expect.out(x));
        Expect.same("none came", 1, x.count(5));
        Expect.same("the tape stays", PacketSwitch.REFUSED, x.end(202));
        Expect.same("the tape stays", 201, x.end(201));
        Expect.same("a byte less", 200, x.end(200));
        Expect.same("200 bytes", 5, x.packet(5));
        Expect.same("OUT", 200, x.octet(-1));
        Expect.same("a packet came", 2, x.count(5));
    }

    private static void packetWithoutProgram() {
        Expect.sentence("behind that NONE without a program (the TAPE is empty then; OUT stays in both)");
        PacketSwitch x = new PacketSwitch();
        Expect.tape(x, new byte[201]);
        Expect.same("201 bytes", PacketSwitch.REFUSED, x.packet(0));
        Expect.same("another port", PacketSwitch.REFUSED, x.packet(-1));
        Expect.same("another port", PacketSwitch.REFUSED, x.packet(512));
        Expect.same("the tape stays", 200, x.end(200));
        Expect.same("200 bytes", PacketSwitch.NONE, x.packet(511));
        Expect.same("the tape is empty", PacketSwitch.REFUSED, x.end(1));
        Expect.same("OUT", 0, x.octet(-1));
        Expect.same("packets", 0, x.count(5));
        Expect.same("a program", PacketSwitch.NONE, Expect.load(x, PASS));
        Expect.same("those before it do not count", 0, x.count(5));
    }

    private static void packetThatIsDropped() {
        Expect.sentence("DROPPED if it was dropped or rejected (OUT is empty then)");
        PacketSwitch x = Expect.loaded("header h{a 8;}state s{extract h;select h.a{1:reject;default:accept;}}control{if(h.a==2){drop;}}");
        for (String digits : new String[] {"", "01", "02", "0105", "0205"}) {
            Expect.goes("goes through", x, 0, "0304", 0, "0304");
            Expect.goes("dropped or rejected", x, 0, digits, PacketSwitch.DROPPED, "");
            Expect.same("OUT is empty", 0, x.octet(-1));
            Expect.same("its first byte", PacketSwitch.NONE, x.octet(0));
        }
        Expect.same("packets", 10, x.count(5));
        Expect.same("rejected", 3, x.count(6));
    }

    private static void octets() {
        Expect.sentence("Byte i of OUT; for i -1 how many. NONE if there is none");
        PacketSwitch x = Expect.loaded(PASS);
        for (int size : new int[] {0, 1, 2, 20, 200}) {
            byte[] packet = new byte[size];
            for (int i = 0; i < size; i++) {
                packet[i] = (byte) (255 - i);
            }
            x = Expect.loaded(PASS);
            Expect.same("before the first packet", 0, x.octet(-1));
            Expect.tape(x, packet);
            Expect.same("packet", 1, x.packet(1));
            Expect.same("how many", size, x.octet(-1));
            for (int i = 0; i < size; i++) {
                Expect.same("octet " + i, 255 - i, x.octet(i));
            }
            for (int i : new int[] {size, size + 1, 320, 2000, -2, -3, Integer.MIN_VALUE, Integer.MAX_VALUE}) {
                Expect.same("octet " + i, PacketSwitch.NONE, x.octet(i));
            }
        }
        Expect.goes("a shorter one behind a longer one", x, 0, "0102", 0, "0102");
        Expect.same("octet 2", PacketSwitch.NONE, x.octet(2));
        Expect.goes("a longer one", x, 0, "010203", 0, "010203");
    }

    private static void hits() {
        Expect.sentence("How often an entry was the one whose action was done. NONE if there is none");
        PacketSwitch x = Expect.loaded(TABLES);
        for (int far : FAR) {
            Expect.same("hits " + far, PacketSwitch.NONE, x.hits(far));
        }
        Expect.same("hits 0", PacketSwitch.NONE, x.hits(0));
        for (int table = 0; table < 4; table++) {
            x.match(0, 5, 0);
            Expect.same("insert", table, x.insert(table, table % 2, 1));
        }
        x.match(0, 5, 0);
        Expect.same("a lesser priority", 4, x.insert(0, 0, 0));
        Expect.same("hits -1", PacketSwitch.NONE, x.hits(-1));
        Expect.same("hits 5", PacketSwitch.NONE, x.hits(5));
        for (int times = 0; times <= 20; times++) {
            for (int entry = 0; entry < 4; entry++) {
                Expect.same("hits " + entry, times, x.hits(entry));
            }
            Expect.same("never the one", 0, x.hits(4));
            Expect.same("dropped, and counted", PacketSwitch.DROPPED, Expect.packet(x, 0, "05"));
            Expect.same("another key", 0, Expect.packet(x, 0, "06"));
        }
        Expect.same("remove", 1, x.remove(0));
        Expect.same("of none", PacketSwitch.NONE, x.hits(0));
        Expect.packet(x, 0, "05");
        Expect.same("now the one", 1, x.hits(4));
        Expect.same("the others go on", 22, x.hits(1));
    }

    private static void looks() {
        Expect.sentence("Of a table, what 0: entries, 1: how often its default was done, since the program came");
        PacketSwitch x = Expect.loaded(TABLES);
        for (int entries = 0; entries < 24; entries++) {
            Expect.same("entries", entries, x.look(3, 0));
            x.match(0, entries, 0);
            x.insert(3, 0, 0);
        }
        Expect.same("entries", 24, x.look(3, 0));
        Expect.same("of another", 0, x.look(2, 0));
        for (int times = 0; times < 5; times++) {
            Expect.same("defaults", times, x.look(0, 1));
            Expect.same("defaults", 0, x.look(3, 1));
            Expect.packet(x, 0, "05");
            Expect.packet(x, 0, "ff");
        }
        Expect.packet(x, 0, "18");
        Expect.same("no entry for it", 1, x.look(3, 1));
        Expect.same("load", PacketSwitch.NONE, Expect.load(x, TABLES));
        Expect.same("defaults", 0, x.look(0, 1));
        Expect.same("entries", 0, x.look(3, 0));
        Expect.sentence("NONE if there is none; REFUSED for another what, first");
        for (int table : new int[] {-1, 4, 5, Integer.MIN_VALUE, Integer.MAX_VALUE}) {
            Expect.same("table " + table, PacketSwitch.NONE, x.look(table, 0));
            Expect.same("table " + table, PacketSwitch.NONE, x.look(table, 1));
            for (int what : new int[] {-1, 2, Integer.MIN_VALUE, Integer.MAX_VALUE}) {
                Expect.same("what " + what, PacketSwitch.REFUSED, x.look(table, what));
                Expect.same("what " + what, PacketSwitch.REFUSED, x.look(0, what));
                Expect.same("what " + what, PacketSwitch.REFUSED, new PacketSwitch().look(table, what));
            }
        }
    }

    private static void counts() {
        Expect.sentence("Of the program, what 0: headers, 1: metas, 2: states, 3: actions, 4: tables");
        int[] most = {6, 6, 8, 8, 4};
        String[] one = {"header h#{a 8;}", "meta m# 8;", "state s#{goto accept;}", "action f#(){}",
            "table t#{key m0 exact;actions f0;default f0();}"};
        for (int what = 0; what < 5; what++) {
            for (int many : new int[] {1, 2, most[what]}) {
                StringBuilder text = new StringBuilder();
                for (int i = 0; i < 5; i++) {
                    text.append(Texts.times(i == what ? many : 1, one[i]));
                }
                PacketSwitch x = Expect.loaded(text + "control{}");
                for (int i = 0; i < 5; i++) {
                    Expect.same("count " + i, i == what ? many : 1, x.count(i));
                }
            }
        }
        Expect.sentence("5: packets that came since, 6: those that were rejected");
        PacketSwitch x = Expect.loaded(TABLES);
        for (int i = 0; i < 10; i++) {
            Expect.same("packets", 2 * i, x.count(5));
            Expect.same("rejected", i, x.count(6));
            Expect.packet(x, 0, "01");
            Expect.packet(x, 0, i % 2 == 0 ? "ff" : "");
        }
        Expect.same("load", PacketSwitch.NONE, Expect.load(x, TABLES));
        Expect.same("packets", 0, x.count(5));
        Expect.same("rejected", 0, x.count(6));
        Expect.sentence("0 without one; REFUSED for others");
        for (int what : new int[] {-1, 7, 8, Integer.MIN_VALUE, Integer.MAX_VALUE}) {
            Expect.same("count " + what, PacketSwitch.REFUSED, x.count(what));
            Expect.same("without a program", PacketSwitch.REFUSED, new PacketSwitch().count(what));
        }
        for (int what = 0; what <= 6; what++) {
            Expect.same("without a program", 0, new PacketSwitch().count(what));
        }
    }
}
