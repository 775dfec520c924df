import java.math.BigInteger;
import java.util.Random;

/** "Terms", PACKET and what is in it up to the states: the edges that each sentence names. */
public final class PacketEdgesTest {
    private static final String PASS = "state s{goto accept;}control{out=in;}";

    public static void main(String[] args) {
        bytesAndPorts();
        allIsZeroFirst();
        bitsOfFields();
        takenAnew();
        lessThanAHeader();
        firstState();
        firstCase();
        bitsOfCases();
        widthOfCases();
        defaultOfSelect();
        seventeenthState();
        acceptAndReject();
        Expect.finish();
    }

    private static String bytes(int count) {
        StringBuilder digits = new StringBuilder();
        for (int i = 0; i < count; i++) {
            digits.append(String.format("%02x", i * 7 + 1 & 255));
        }
        return digits.toString();
    }

    private static void bytesAndPorts() {
        Expect.sentence("PACKET: bytes, at most 200");
        for (int size : new int[] {0, 1, 19, 20, 21, 199, 200}) {
            Expect.goes("size " + size, Expect.loaded(PASS), 1, bytes(size), 1, bytes(size));
        }
        for (int size : new int[] {201, 220, 1999, 2000}) {
            PacketSwitch x = Expect.loaded(PASS);
            Expect.same("size " + size, PacketSwitch.REFUSED, Expect.packet(x, 1, bytes(size)));
            Expect.same("the tape stays", size, x.end(size));
        }
        Expect.sentence("and a PORT (0 to 511)");
        PacketSwitch x = Expect.loaded(PASS);
        for (int port : new int[] {0, 1, 255, 256, 510, 511}) {
            Expect.same("port " + port, port, x.packet(port));
        }
        for (int port : new int[] {-1, 512, 513, 1024, 65536, Integer.MIN_VALUE, Integer.MAX_VALUE}) {
            Expect.same("port " + port, PacketSwitch.REFUSED, x.packet(port));
        }
    }

    private static void allIsZeroFirst() {
        Expect.sentence("All headers are not valid first, all fields and metas 0, out 0");
        String heads = Texts.times(6, "header h#{a 8;}") + Texts.times(6, "meta m# 48;");
        String control = "control{if(" + Texts.times(6, "h#.valid||") + Texts.times(6, "h#.a+m#!=0||") + "out!=0){out=511;}"
            + "else{out=1;}if(out==1){" + Texts.times(6, "add h#;h#.a=255;m#=0-1;") + "}if(in==9){drop;}}";
        PacketSwitch x = Expect.loaded(heads + Texts.STATE + control);
        String six = "ffffffffffff";
        Expect.goes("the first packet", x, 0, "01", 1, six + "01");
        Expect.goes("the next one", x, 0, "02", 1, six + "02");
        Expect.goes("one that is dropped", x, 9, "02", PacketSwitch.DROPPED, "");
        Expect.goes("the one behind it", x, 0, "", 1, six);
        // The first header is taken, then the packet is too short: nothing of it is left.
        x = Expect.loaded(heads + "state s{select h0.a{0:t;}}state t{extract h0;extract h1;select h1.a{1:accept;}}"
            + "control{out=h0.a+h1.a;}");
        Expect.goes("too short", x, 0, "05", PacketSwitch.DROPPED, "");
        Expect.goes("rejected", x, 0, "0502", PacketSwitch.DROPPED, "");
        Expect.goes("goes through", x, 0, "0501", 6, "0501");
        Expect.goes("goes through", x, 0, "0501", 6, "0501");
        Expect.same("rejected", 2, x.count(6));
    }

    private static void bitsOfFields() {
        Expect.sentence("each extract takes the next bits of the packet as a header's fields, the highest first");
        Random random = new Random(1);
        for (int width = 1; width <= 48; width++) {
            for (int before = 0; before <= 9; before += 3) {
                aField(random, before, width);
            }
        }
    }

    /** A field of a width behind so many bits: it is copied out, and comes out as it was. */
    private static void aField(Random random, int before, int width) {
        int behind = 8 - (before + width) % 8;
        int length = (before + width + behind) / 8;
        String fields = (before == 0 ? "" : "a " + before + ";") + "b " + width + ";c " + behind + ";";
        PacketSwitch x = Expect.loaded("header r{v 48;}header h{" + fields + "}"
            + "state s{extract h;goto accept;}control{add r;r.v=h.b;}");
        byte[] packet = new byte[length + 1];
        random.nextBytes(packet);
        StringBuilder digits = new StringBuilder();
        for (byte octet : packet) {
            digits.append(String.format("%02x", octet));
        }
        long due = new BigInteger(1, packet).shiftRight(behind + 8).longValue() & (1L << width) - 1;
        Expect.goes("field of " + width + " behind " + before, x, 0, digits.toString(), 0,
            String.format("%012x", due) + digits);
    }

    private static void takenAnew() {
        Expect.sentence("(one taken already is taken anew)");
        PacketSwitch x = Expect.loaded("header h{a 8;b 8;}header g{a 8;}state s{extract h;extract g;extract h;goto accept;}"
            + "control{out=h.a;}");
        Expect.goes("the second is the header", x, 0, "0102 77 0304 55", 3, "0304 77 55");
        Expect.goes("there is no second", x, 0, "0102 77 03", PacketSwitch.DROPPED, "");
        x = Expect.loaded("header h{a 8;}state s{extract h;extract h;extract h;select h.a{0:s;default:accept;}}control{}");
        Expect.goes("many times", x, 0, "010200 030400 050607 08", 0, "07 08");
    }

    private static void lessThanAHeader() {
        Expect.sentence("if there are less: reject");
        for (int length = 1; length <= 20; length++) {
            String fields = Texts.times(length / 4, "a# 32;") + (length % 4 == 0 ? "" : "b " + length % 4 * 8 + ";");
            PacketSwitch x = Expect.loaded("header h{" + fields + "}header g{c 8;}state s{extract h;goto t;}"
                + "state t{extract g;goto accept;}control{}");
            Expect.goes("one less", x, 0, bytes(length - 1), PacketSwitch.DROPPED, "");
            Expect.goes("none for the second", x, 0, bytes(length), PacketSwitch.DROPPED, "");
            Expect.goes("just enough", x, 0, bytes(length + 1), 0, bytes(length + 1));
            Expect.goes("one more", x, 0, bytes(length + 2), 0, bytes(length + 2));
            Expect.same("rejected", 2, x.count(6));
            Expect.same("came", 4, x.count(5));
        }
        PacketSwitch x = Expect.loaded("header h{a 48;b 48;c 48;d 16;}state s{extract h;select h.d{65535:accept;default:s;}}control{}");
        Expect.goes("the last 20 of 200", x, 0, "00".repeat(198) + "ffff", 0, "00".repeat(18) + "ffff");
        Expect.goes("one is missing", x, 0, "00".repeat(197) + "ffff", PacketSwitch.DROPPED, "");
    }

    private static void firstState() {
        Expect.sentence("STATES from the first one on");
        PacketSwitch x = Expect.loaded("header h{a 8;}state b{extract h;goto accept;}state a{goto reject;}control{out=h.a;}");
        Expect.goes("the first one", x, 0, "05", 5, "05");
        x = Expect.loaded("header h{a 8;}" + Texts.times(6, "state s#{goto last;}") + "state last{goto ex;}state ex{extract h;goto accept;}"
            + "control{out=h.a;}");
        Expect.goes("to the last ones", x, 0, "05", 5, "05");
    }

    private static void firstCase() {
        Expect.sentence("select: the first case whose number is the same as the place");
        PacketSwitch x = Expect.loaded("header h{a 8;}header g{a 8;}"
            + "state s{extract h;select h.a{1:t0;1:t1;0:t1;255:t0;7:reject;7:t1;6:accept;254/254:t1;}}"
            + "state t0{goto accept;}state t1{extract g;goto accept;}control{if(g.valid){out=g.a;}else{out=300;}}");
        Expect.goes("the first of two", x, 0, "01 05", 300, "01 05");
        Expect.goes("0", x, 0, "00 05", 5, "00 05");
        Expect.goes("the greatest, before one that is like it", x, 0, "ff 05", 300, "ff 05");
        Expect.goes("the last of eight", x, 0, "fe 05", 5, "fe 05");
        Expect.goes("to reject, though a later one is the same", x, 0, "07 05", PacketSwitch.DROPPED, "");
        Expect.goes("to accept", x, 0, "06 05", 300, "06 05");
        Expect.goes("none", x, 0, "02 05", PacketSwitch.DROPPED, "");
    }

    private static void bitsOfCases() {
        Expect.sentence("in the bits of the number behind / (all, without)");
        for (int mask : new int[] {0, 1, 2, 128, 15, 240, 254, 255}) {
            PacketSwitch x = Expect.loaded("header h{a 8;}state s{extract h;select h.a{165/" + mask + ":accept;}}control{}");
            for (int value : new int[] {165, 164, 167, 37, 160, 5, 90, 0, 255}) {
                boolean same = (value & mask) == (165 & mask);
                String packet = String.format("%02x", value);
                Expect.goes("165/" + mask + " and " + value, x, 0, packet, same ? 0 : PacketSwitch.DROPPED, same ? packet : "");
            }
        }
        PacketSwitch x = Expect.loaded("header h{a 8;}state s{extract h;select h.a{165:accept;}}control{}");
        for (int bit = 0; bit < 8; bit++) {
            Expect.goes("all bits", x, 0, String.format("%02x", 165 ^ 1 << bit), PacketSwitch.DROPPED, "");
        }
        Expect.goes("all bits", x, 0, "a5", 0, "a5");
    }

    private static void widthOfCases() {
        Expect.sentence("whose number is the same as the place (a number of more bits than it has)");
        PacketSwitch x = Expect.loaded("header h{a 8;}state s{extract h;select h.a{261:reject;4294967301:reject;281474976710655:reject;"
            + "261/255:accept;281474976710400/281474976710400:reject;256/256:reject;0/256:t;}}state t{extract h;goto accept;}control{}");
        Expect.goes("in its bits it may be the same", x, 0, "05", 0, "05");
        Expect.goes("outside them the place has 0", x, 0, "06 09", 0, "09");
        x = Expect.loaded("header h{a 48;}state s{extract h;select h.a{281474976710655:accept;140737488355328/140737488355328:t;}}"
            + "state t{goto reject;}control{out=7;}");
        Expect.goes("all 48 bits", x, 0, "ffffffffffff", 7, "ffffffffffff");
        Expect.goes("the highest of them", x, 0, "800000000000", PacketSwitch.DROPPED, "");
        Expect.goes("none", x, 0, "7fffffffffff", PacketSwitch.DROPPED, "");
    }

    private static void defaultOfSelect() {
        Expect.sentence("else that of default; else reject");
        String start = "header h{a 8;}state s{extract h;select h.a{";
        Expect.goes("default", Expect.loaded(start + "1:reject;default:accept;}}control{}"), 0, "02", 0, "02");
        Expect.goes("a case before it", Expect.loaded(start + "2:reject;default:accept;}}control{}"), 0, "02", PacketSwitch.DROPPED, "");
        Expect.goes("default to reject", Expect.loaded(start + "1:accept;default:reject;}}control{}"), 0, "02", PacketSwitch.DROPPED, "");
        Expect.goes("default alone", Expect.loaded(start + "default:accept;}}control{}"), 0, "02", 0, "02");
        Expect.goes("default to a state", Expect.loaded(start + "default:t;}}state t{extract h;goto accept;}control{}"), 0, "0203", 0, "03");
        Expect.goes("no default", Expect.loaded(start + "1:accept;}}control{}"), 0, "02", PacketSwitch.DROPPED, "");
        Expect.goes("nothing", Expect.loaded(start + "}}control{}"), 0, "02", PacketSwitch.DROPPED, "");
        Expect.goes("eight cases and it", Expect.loaded(start + Texts.times(8, "#:reject;") + "default:accept;}}control{}"), 0, "08", 0, "08");
    }

    private static void seventeenthState() {
        Expect.sentence("The 17th state: reject");
        PacketSwitch x = Expect.loaded("header h{a 8;}state s{extract h;select h.a{0:s;default:accept;}}control{out=size;}");
        for (int states = 1; states <= 16; states++) {
            Expect.goes(states + " states", x, 0, "00".repeat(states - 1) + "01", states, "01");
        }
        Expect.goes("17 states", x, 0, "00".repeat(16) + "01", PacketSwitch.DROPPED, "");
        Expect.goes("18 states", x, 0, "00".repeat(17) + "01", PacketSwitch.DROPPED, "");
        Expect.same("rejected", 2, x.count(6));
        // Eight states, each of them twice; in the second round the last one lets the packet go.
        String ring = "header h{a 8;}" + Texts.times(7, "state s#{goto sN;}");
        for (int i = 0; i < 7; i++) {
            ring = ring.replaceFirst("sN", "s" + (i + 1));
        }
        x = Expect.loaded(ring + "state s7{extract h;select h.a{0:s0;default:accept;}}control{}");
        Expect.goes("8 states", x, 0, "01", 0, "01");
        Expect.goes("16 states", x, 0, "0001", 0, "01");
        Expect.goes("24 states", x, 0, "000001", PacketSwitch.DROPPED, "");
        x = Expect.loaded("state s{goto s;}control{}");
        Expect.goes("without an end", x, 0, "01", PacketSwitch.DROPPED, "");
        x = Expect.loaded("state s{goto t;}state t{goto s;}control{}");
        Expect.goes("around", x, 0, "", PacketSwitch.DROPPED, "");
    }

    private static void acceptAndReject() {
        Expect.sentence("At accept the control is done, at reject nothing");
        PacketSwitch x = Expect.loaded("header h{a 8;}action f(){}table t{key h.a exact;actions f;default f();}"
            + "state s{extract h;select h.a{1:accept;2:reject;}}control{out=5;apply t;}");
        Expect.goes("accept", x, 0, "01", 5, "01");
        Expect.same("the default was done", 1, x.look(0, 1));
        Expect.goes("reject", x, 0, "02", PacketSwitch.DROPPED, "");
        Expect.goes("no case", x, 0, "03", PacketSwitch.DROPPED, "");
        Expect.goes("too short", x, 0, "", PacketSwitch.DROPPED, "");
        Expect.same("the default was not done", 1, x.look(0, 1));
        Expect.same("rejected", 3, x.count(6));
    }
}
