import java.util.ArrayList;
import java.util.List;
import java.util.Random;

/** Promises 1 to 14 under calls and texts that nobody thought of; the seeds make each run the same. */
public final class RandomTest {
    private static final String PROGRAM = "header eth { dst 16 ; src 16 ; type 8 ; } header ip { ttl 8 ; pad 8 ; sum 16 ; to 32 ; }"
        + " meta hop 9 ; state start { extract eth ; select eth . type { 4 : net ; 8 / 12 : start ; default : accept ; } }"
        + " state net { extract ip ; goto accept ; } action fwd ( port 9 , mac 16 ) { out = port ; eth . dst = mac ; hop = port ; }"
        + " action lost ( ) { drop ; } table route { key ip . to lpm , hop exact ; actions fwd , lost ; default fwd ( 3 , 7 ) ; }"
        + " table wall { key eth . src ternary ; actions lost , fwd ; default fwd ( 0 , 7 ) ; }"
        + " control { if ( ip . valid && ( ip . ttl > 1 || ! eth . valid ) ) { apply route ; checksum ip . sum ;"
        + " ip . ttl = ( ip . ttl - 1 ) & 255 ; } else { apply wall ; add ip ; if ( size <= in + 9 ) { remove eth ; } } }";
    private static final String[] STRANGE = {"$", "_", "A", "abcdefghi", "281474976710656", "0", "49", "==", "<<", "||", "!", "valid", "x"};

    private static final int MOST_CALLS = 512, LOAD_CALLS = 100;

    private static int calls;

    public static void main(String[] args) {
        for (int seed = 0; seed < 3000; seed++) {
            faultIsTheFirst(seed);
        }
        for (int seed = 0; seed < 1000; seed++) {
            sameCallsSameAnswers(seed);
        }
        Expect.finish();
    }

    /** Takes tokens out, doubles them, or puts others in. */
    private static String changed(Random random) {
        List<String> tokens = new ArrayList<>(List.of(PROGRAM.split(" ")));
        int changes = 1 + random.nextInt(2);
        for (int i = 0; i < changes; i++) {
            int at = random.nextInt(tokens.size());
            String other = tokens.get(random.nextInt(tokens.size()));
            switch (random.nextInt(4)) {
                case 0:
                    tokens.remove(at);
                    break;
                case 1:
                    tokens.set(at, other);
                    break;
                case 2:
                    tokens.add(at, other);
                    break;
                default:
                    tokens.add(at, STRANGE[random.nextInt(STRANGE.length)]);
            }
        }
        return String.join(random.nextBoolean() ? " " : "\n ", tokens);
    }

    /** All that stands before a fault can stand there: a byte that begins no token is the fault behind it. */
    private static void faultIsTheFirst(int seed) {
        String text = changed(new Random(seed));
        int fault = Expect.load(new PacketSwitch(), text);
        if (fault == PacketSwitch.NONE) {
            fault = text.length();
        }
        Expect.that("a place in " + text, fault >= 0 && fault <= text.length());
        Expect.same("what is before the fault of " + text, fault,
            Expect.load(new PacketSwitch(), text.substring(0, fault) + "$"));
    }

    private static void sameCallsSameAnswers(int seed) {
        PacketSwitch x = new PacketSwitch();
        PacketSwitch y = new PacketSwitch();
        Random one = new Random(seed);
        Random other = new Random(seed);
        // Two objects share the tally: a load takes more than twenty calls of each.
        calls = 0;
        for (int i = 0; i < 100 && calls < 2 * (MOST_CALLS - LOAD_CALLS); i++) {
            Expect.same("call " + i + " of seed " + seed, anyCall(x, one), anyCall(y, other));
        }
    }

    private static int anyInt(Random random) {
        int[] edges = {-1, 0, 1, 2, 3, 4, 5, 24, 200, 511, 512, Integer.MIN_VALUE, Integer.MAX_VALUE};
        return random.nextInt(10) == 0 ? random.nextInt() : edges[random.nextInt(edges.length)];
    }

    private static long anyLong(Random random) {
        return random.nextInt(10) == 0 ? random.nextLong() : anyInt(random);
    }

    private static int load(PacketSwitch x, String text) {
        calls += LOAD_CALLS;
        x.end(0);
        return Expect.load(x, text);
    }

    private static int anyCall(PacketSwitch x, Random random) {
        calls += 2;
        switch (random.nextInt(16)) {
            case 0:
                return x.feed(random.nextInt(), random.nextInt(), random.nextInt(), random.nextInt(), random.nextInt());
            case 1:
                return x.end(random.nextInt(30) - 1);
            case 2:
                return x.end(0) + x.load();
            case 3:
                return load(x, PROGRAM);
            case 4:
                return load(x, changed(random));
            case 5:
                return x.match(anyInt(random), anyLong(random), anyLong(random));
            case 6:
                return x.argument(anyInt(random), anyLong(random));
            case 7:
            case 8:
                return x.insert(random.nextInt(4) - 1, random.nextInt(4) - 1, anyInt(random));
            case 9:
                return x.remove(anyInt(random));
            case 10:
                return x.fallback(random.nextInt(4) - 1, random.nextInt(4) - 1);
            case 11:
                return x.octet(anyInt(random));
            case 12:
                return x.hits(anyInt(random)) + 1000 * x.look(anyInt(random), anyInt(random));
            case 13:
                return x.count(anyInt(random));
            default:
                return x.packet(anyInt(random));
        }
    }
}
