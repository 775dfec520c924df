/**
 * Calls that are refused change nothing, and those that only look do not either: of two objects that were
 * made alike one gets such a call, and then all that can be asked of them is the same.
 */
public final class NothingChangesTest {
    private static final int TAPE = 37;
    private static final String TEXT = "header h{a 8;b 8;c 8;}header r{v 16;}meta m 4;"
        + "state s{extract h;select h.a{255:reject;default:accept;}}"
        + "action f(p 4,q 8,r 9){out=p+q+r;}action g(){drop;}action k(p 9){out=p;}"
        + "table t{key h.a exact;actions k,g;default k(300);}"
        + "table u{key h.a exact,h.b lpm,h.c ternary;actions f,g;default g();}"
        + "control{if(h.b==0){apply t;}else{apply u;}add r;r.v=out;}";

    private interface Call {
        int on(PacketSwitch x);
    }

    public static void main(String[] args) {
        tapes();
        makingUp();
        inserts();
        fullTable();
        removesAndFallbacks();
        packets();
        withoutProgram();
        loads();
        looking();
        Expect.finish();
    }

    /** An object that has something of everything. */
    private static PacketSwitch made() {
        PacketSwitch x = Expect.loaded(TEXT);
        x.match(0, 1, 0);
        x.argument(0, 11);
        x.insert(0, 0, 5);
        x.match(0, 2, 0);
        x.insert(0, 1, 0);
        x.match(0, 3, 0);
        x.argument(0, 12);
        x.insert(0, 0, 0);
        x.remove(1);
        Expect.packet(x, 0, "ff 00 00");
        Expect.packet(x, 1, "03 00 00 77");
        makeUp(x, 7);
        x.argument(0, 15);
        x.argument(1, 255);
        x.argument(2, 7);
        byte[] tape = new byte[TAPE];
        tape[0] = 3;
        tape[TAPE - 1] = 99;
        Expect.tape(x, tape);
        return x;
    }

    private static void makeUp(PacketSwitch x, int first) {
        x.match(0, first, 0);
        x.match(1, 0x40, 3);
        x.match(2, 4, 6);
    }

    /** All that can be asked of an object; it is not what it was then. */
    private static String state(PacketSwitch x) {
        StringBuilder all = new StringBuilder();
        tally(x, all);
        all.append(" tape ").append(x.end(TAPE + 1)).append(' ').append(x.end(TAPE)).append(' ').append(x.packet(8));
        all.append(' ').append(Expect.out(x));
        // What is made up: as it is, then with an argument and a key that can stand.
        all.append(" inserts ").append(x.insert(1, 0, 1));
        x.argument(2, 9);
        all.append(' ').append(x.insert(1, 0, 2));
        x.match(0, 7, 0);
        all.append(' ').append(x.insert(1, 0, 3)).append(' ').append(x.insert(0, 0, 4));
        makeUp(x, 7);
        all.append(' ').append(x.insert(1, 0, 1)).append(' ').append(x.insert(1, 0, 77));
        for (String digits : new String[] {"010000", "020000", "030000", "040000", "074004", "075f05", "076004", "074000", "000100", "ff0000"}) {
            all.append(' ').append(digits).append(' ').append(Expect.packet(x, 2, digits)).append(' ').append(Expect.out(x));
        }
        tally(x, all);
        return all.toString();
    }

    private static void tally(PacketSwitch x, StringBuilder all) {
        all.append(" counts");
        for (int what = 0; what <= 6; what++) {
            all.append(' ').append(x.count(what));
        }
        for (int table = 0; table <= 2; table++) {
            all.append(' ').append(x.look(table, 0)).append(' ').append(x.look(table, 1));
        }
        all.append(" hits");
        for (int entry = 0; entry < 30; entry++) {
            all.append(' ').append(x.hits(entry));
        }
        all.append(" out ").append(Expect.out(x));
    }

    /** The call answers what is due, and leaves all as the other call does. */
    private static void sameAs(String what, int due, Call before, Call call, Call other) {
        PacketSwitch one = made();
        PacketSwitch two = made();
        before.on(one);
        before.on(two);
        Expect.same(what, due, call.on(one));
        other.on(two);
        Expect.same(what + ", then all", state(two), state(one));
    }

    private static void unchanged(String what, int due, Call before, Call call) {
        sameAs(what, due, before, call, x -> 0);
    }

    private static void unchanged(String what, int due, Call call) {
        unchanged(what, due, x -> 0, call);
    }

    private static void tapes() {
        Expect.sentence("FULL if it would have more than 2000");
        PacketSwitch x = new PacketSwitch();
        for (int i = 0; i < 100; i++) {
            x.feed(0x20202020, 0x20202020, 0x20202020, 0x20202020, 0x20202020);
        }
        x.end(1981);
        for (int i = 0; i < 5; i++) {
            Expect.same("feed", PacketSwitch.FULL, x.feed(-1, -1, -1, -1, -1));
        }
        Expect.same("the tape has as many", PacketSwitch.REFUSED, x.end(1982));
        Expect.same("and the same", 1981, x.load());
        Expect.sentence("REFUSED if it has less, or n is below 0");
        for (int n : new int[] {-1, TAPE + 1, 2000, Integer.MIN_VALUE, Integer.MAX_VALUE}) {
            unchanged("end " + n, PacketSwitch.REFUSED, y -> y.end(n));
        }
        unchanged("end of all", TAPE, y -> y.end(TAPE));
    }

    private static void makingUp() {
        Expect.sentence("REFUSED for another k");
        for (int k : new int[] {-1, 3, Integer.MIN_VALUE, Integer.MAX_VALUE}) {
            unchanged("match " + k, PacketSwitch.REFUSED, x -> x.match(k, 1, 1));
            unchanged("argument " + k, PacketSwitch.REFUSED, x -> x.argument(k, 1));
        }
    }

    private static void inserts() {
        Expect.sentence("In these cases nothing changes");
        for (int wrong : new int[] {-1, 2, 4, Integer.MIN_VALUE, Integer.MAX_VALUE}) {
            unchanged("insert, table " + wrong, PacketSwitch.NONE, x -> x.insert(wrong, 0, 0));
            unchanged("insert, action " + wrong, PacketSwitch.NONE, x -> x.insert(1, wrong, 0));
        }
        unchanged("insert, a value", PacketSwitch.REFUSED, x -> x.match(0, 256, 0), x -> x.insert(1, 0, 0));
        unchanged("insert, a value", PacketSwitch.REFUSED, x -> x.match(0, -1, 0), x -> x.insert(0, 1, 0));
        unchanged("insert, a prefix", PacketSwitch.REFUSED, x -> x.match(1, 0, 9), x -> x.insert(1, 0, 0));
        unchanged("insert, a mask", PacketSwitch.REFUSED, x -> x.match(2, 0, 256), x -> x.insert(1, 0, 0));
        unchanged("insert, bits outside", PacketSwitch.REFUSED, x -> x.match(2, 1, 2), x -> x.insert(1, 0, 0));
        unchanged("insert, an argument", PacketSwitch.REFUSED, x -> x.argument(2, 512), x -> x.insert(1, 0, 0));
        unchanged("insert, an argument", PacketSwitch.REFUSED, x -> x.argument(0, -1), x -> x.insert(1, 0, 0));
        unchanged("insert, there", PacketSwitch.THERE, x -> x.match(0, 1, 0), x -> x.insert(0, 0, 5));
        unchanged("insert, there with another action", PacketSwitch.THERE, x -> x.match(0, 1, 0), x -> x.insert(0, 1, 5));
    }

    private static int fill(PacketSwitch x) {
        for (int i = 0; i < 22; i++) {
            x.insert(0, 0, 100 + i);
        }
        makeUp(x, 7);
        return x.argument(1, 20);
    }

    private static void fullTable() {
        Expect.sentence("FULL if the table has 24. In these cases nothing changes");
        unchanged("insert, full", PacketSwitch.FULL, NothingChangesTest::fill, x -> x.insert(0, 0, 0));
        unchanged("insert, there and full", PacketSwitch.THERE, x -> fill(x) + x.match(0, 1, 0), x -> x.insert(0, 0, 5));
        unchanged("insert, refused and full", PacketSwitch.REFUSED, x -> fill(x) + x.match(0, 256, 0), x -> x.insert(0, 0, 0));
    }

    private static void removesAndFallbacks() {
        Expect.sentence("NONE if there is none");
        for (int wrong : new int[] {-1, 1, 3, Integer.MIN_VALUE, Integer.MAX_VALUE}) {
            unchanged("remove " + wrong, PacketSwitch.NONE, x -> x.remove(wrong));
        }
        Expect.sentence("NONE and REFUSED (for its arguments) as for insert");
        for (int wrong : new int[] {-1, 2, Integer.MIN_VALUE, Integer.MAX_VALUE}) {
            unchanged("fallback, table " + wrong, PacketSwitch.NONE, x -> x.fallback(wrong, 0));
            unchanged("fallback, action " + wrong, PacketSwitch.NONE, x -> x.fallback(0, wrong));
        }
        unchanged("fallback, an argument", PacketSwitch.REFUSED, x -> x.argument(0, 512), x -> x.fallback(0, 0));
        unchanged("fallback, an argument", PacketSwitch.REFUSED, x -> x.argument(2, -1), x -> x.fallback(1, 0));
    }

    private static void packets() {
        Expect.sentence("REFUSED for another port, or more than 200 bytes (the TAPE stays); OUT stays");
        for (int port : new int[] {-1, 512, Integer.MIN_VALUE, Integer.MAX_VALUE}) {
            unchanged("packet on " + port, PacketSwitch.REFUSED, x -> x.packet(port));
        }
        Call longer = x -> {
            for (int i = 0; i < 9; i++) {
                x.feed(i, i, i, i, i);
            }
            return x.end(201);
        };
        Call packetThenCut = x -> {
            int answer = x.packet(0);
            Expect.same("the tape stays", TAPE, x.end(TAPE));
            return answer;
        };
        sameAs("packet of 201", PacketSwitch.REFUSED, longer, packetThenCut, x -> x.end(TAPE));
    }

    private static void withoutProgram() {
        Expect.sentence("NONE without a program (the TAPE is empty then; OUT stays in both)");
        PacketSwitch x = new PacketSwitch();
        makeUp(x, 7);
        x.argument(2, 7);
        Expect.same("packet", PacketSwitch.NONE, Expect.packet(x, 0, "0102"));
        Expect.same("insert", PacketSwitch.NONE, x.insert(0, 0, 0));
        Expect.same("fallback", PacketSwitch.NONE, x.fallback(0, 0));
        Expect.same("remove", PacketSwitch.NONE, x.remove(0));
        Expect.same("OUT", 0, x.octet(-1));
        Expect.same("load", PacketSwitch.NONE, Expect.load(x, TEXT));
        Expect.same("what is made up stays", 0, x.insert(1, 0, 0));
        Expect.goes("it does", x, 0, "074004", 7, "074004 0007");
        Expect.same("packets", 1, x.count(5));
    }

    private static void loads() {
        Expect.sentence("Its FAULT if it has one: the program and the entries stay");
        String[] texts = {"", "$", "meta m 8;", "header h{a 8;}header g{a 8;}state s{goto t;}control{}", TEXT + "x",
            TEXT.substring(0, TEXT.length() - 1), "state s{extract h;goto accept;}control{}"};
        int[] faults = {0, 0, 9, 41, TEXT.length(), TEXT.length() - 1, 16};
        for (int i = 0; i < texts.length; i++) {
            String text = texts[i];
            // Both have the same on their tapes again in the end.
            Call tapeAnew = x -> {
                byte[] tape = new byte[TAPE];
                tape[0] = 3;
                x.end(0);
                Expect.tape(x, tape);
                return 0;
            };
            Call load = x -> {
                x.end(0);
                int fault = Expect.load(x, text);
                tapeAnew.on(x);
                return fault;
            };
            sameAs("load of " + text, faults[i], x -> 0, load, tapeAnew);
        }
    }

    private static void looking() {
        Expect.sentence("octet, hits, look and count only tell");
        unchanged("octet", 6, x -> x.octet(-1));
        unchanged("octet", PacketSwitch.NONE, x -> x.octet(6));
        unchanged("octet", 0x77, x -> x.octet(5));
        unchanged("hits", 1, x -> x.hits(2));
        unchanged("hits", PacketSwitch.NONE, x -> x.hits(1));
        unchanged("look", 2, x -> x.look(0, 0));
        unchanged("look", 0, x -> x.look(0, 1));
        unchanged("look", PacketSwitch.NONE, x -> x.look(2, 0));
        unchanged("look", PacketSwitch.REFUSED, x -> x.look(0, 2));
        unchanged("count", 2, x -> x.count(5));
        unchanged("count", PacketSwitch.REFUSED, x -> x.count(7));
    }
}
