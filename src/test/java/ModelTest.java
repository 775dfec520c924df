import java.util.Arrays;
import java.util.Random;

/** Promises 1 to 14: random programs and calls, answered by PacketSwitch and by the model of the document. */
public final class ModelTest {
    private static final int SEEDS = 3000, ROUNDS = 70;

    private final Random random;
    private final PacketSwitch x = new PacketSwitch();
    private final Model model = new Model();
    private final String seed;
    private int calls;

    private ModelTest(int seed) {
        random = new Random(seed);
        this.seed = "seed " + seed + ": ";
    }

    public static void main(String[] args) {
        int goesOut = 0;
        int faults = 0;
        for (int seed = 0; seed < SEEDS; seed++) {
            ModelTest test = new ModelTest(seed);
            for (int i = 0; i < 3 && test.load() != PacketSwitch.NONE; i++) {
                faults++;
            }
            for (int i = 0; i < ROUNDS && test.calls < 380; i++) {
                goesOut += test.anyCall() > 0 ? 1 : 0;
            }
        }
        // The texts and packets must be such that most of the program is used.
        Expect.that(faults + " texts had a fault", faults > SEEDS / 5);
        Expect.that(goesOut + " packets went out on a port above 0", goesOut > SEEDS);
        Expect.finish();
    }

    private void same(String call, int due, int got) {
        calls++;
        Expect.same(seed + call, due, got);
    }

    private void tape(byte[] bytes) {
        for (int at = 0; at < bytes.length; at += 20) {
            int[] words = new int[5];
            for (int i = 0; i < 20 && at + i < bytes.length; i++) {
                words[i / 4] |= (bytes[at + i] & 255) << (24 - 8 * (i % 4));
            }
            same("feed", model.feed(words[0], words[1], words[2], words[3], words[4]),
                x.feed(words[0], words[1], words[2], words[3], words[4]));
        }
        same("end", model.end(bytes.length), x.end(bytes.length));
    }

    private int load() {
        same("end 0", model.end(0), x.end(0));
        String text = new RandomText(random).text();
        byte[] bytes = Expect.bytesOf(text);
        // A text that is too long for the tape is cut.
        tape(bytes.length <= 2000 ? bytes : Arrays.copyOf(bytes, 2000));
        int answer = x.load();
        same("load of " + text, model.load(), answer);
        return answer;
    }

    private int packet() {
        same("end 0", model.end(0), x.end(0));
        byte[] bytes = new byte[random.nextInt(45)];
        for (int i = 0; i < bytes.length; i++) {
            bytes[i] = (byte) (random.nextInt(3) == 0 ? random.nextInt(256) : random.nextInt(4));
        }
        tape(bytes);
        int port = random.nextInt(20) == 0 ? 511 + random.nextInt(2) : random.nextInt(5);
        int answer = x.packet(port);
        same("packet " + port, model.packet(port), answer);
        int length = x.octet(-1);
        same("octet -1", model.octet(-1), length);
        for (int i = -2; i <= length && i < 40; i++) {
            same("octet " + i, model.octet(i), x.octet(i));
        }
        return answer > 0 ? answer : 0;
    }

    private long value() {
        switch (random.nextInt(12)) {
            case 0:
                return random.nextLong();
            case 1:
                return 1L << random.nextInt(50);
            case 2:
                return (1L << random.nextInt(50)) - 1;
            case 3:
                return random.nextInt(300) - 1;
            default:
                return random.nextInt(4);
        }
    }

    private void makeUp() {
        for (int k = random.nextInt(10) == 0 ? -1 : 0; k < 3; k++) {
            long mask = random.nextInt(3) == 0 ? random.nextInt(10) : 3;
            long key = random.nextInt(4) & (random.nextInt(4) == 0 ? 0 : 3);
            if (random.nextInt(12) == 0) {
                mask = value();
                key = value();
            }
            same("match " + k, model.match(k, key, mask), x.match(k, key, mask));
            long argument = random.nextInt(12) == 0 ? value() : random.nextInt(2);
            same("argument " + k, model.argument(k, argument), x.argument(k, argument));
        }
    }

    private int number() {
        return random.nextInt(20) == 0 ? random.nextInt() : random.nextInt(6) - 1;
    }

    /** How many packets went out on a port above 0. */
    private int anyCall() {
        int a = random.nextInt(3) == 0 ? number() : 0;
        int b = random.nextInt(3) == 0 ? number() : 0;
        int c = random.nextInt(3);
        switch (random.nextInt(11)) {
            case 0:
                if (random.nextInt(6) == 0 && calls < 250) {
                    load();
                }
                break;
            case 1:
            case 2:
            case 3:
                if (random.nextInt(4) > 0) {
                    makeUp();
                }
                same("insert " + a + ", " + b, model.insert(a, b, c), x.insert(a, b, c));
                break;
            case 4:
                same("remove " + a, model.remove(a), x.remove(a));
                break;
            case 5:
                same("fallback " + a + ", " + b, model.fallback(a, b), x.fallback(a, b));
                break;
            case 6:
                same("hits " + a, model.hits(a), x.hits(a));
                same("look " + b, model.look(b, c), x.look(b, c));
                same("count " + a, model.count(a), x.count(a));
                break;
            default:
                return packet();
        }
        return 0;
    }
}
