import java.lang.management.ManagementFactory;

/** All calls of a run share one room: calls use again what the first ones made. */
public final class RoomTest {
    private static final int ROUNDS = 35;
    // More than an object and what its first two loads make, far less than all loads would make.
    private static final long OBJECT_BYTES = 100_000, ENTRY_BYTES = 300;
    private static final String TEXT = "header h{a 8;}state s{extract h;goto accept;}action f(p 8){h.a=p;}"
        + "table t{key h.a exact;actions f;default f(1);}control{if(h.valid){apply t;}}";

    private static final com.sun.management.ThreadMXBean THREADS =
        (com.sun.management.ThreadMXBean) ManagementFactory.getThreadMXBean();

    public static void main(String[] args) {
        byte[] text = Expect.bytesOf(TEXT);
        int[] words = new int[5 * (text.length / 20 + 1)];
        for (int i = 0; i < text.length; i++) {
            words[i / 4] |= text[i] << (24 - 8 * (i % 4));
        }
        // What loading the classes makes is not the calls' own.
        loadsAndPackets(words, text.length);
        inserts(words, text.length);
        long before = made();
        int answers = loadsAndPackets(words, text.length);
        long bytes = made() - before;
        Expect.same("all loads and packets were fine", 2 * ROUNDS, answers);
        Expect.that("512 calls made " + bytes + " bytes", bytes < OBJECT_BYTES);
        before = made();
        answers = inserts(words, text.length);
        bytes = made() - before;
        Expect.same("all inserts and removes were fine", 2 * 200, answers);
        Expect.that("200 entries made " + bytes + " bytes", bytes < OBJECT_BYTES + 200 * ENTRY_BYTES);
        Expect.finish();
    }

    private static long made() {
        return THREADS.getThreadAllocatedBytes(Thread.currentThread().getId());
    }

    private static int load(PacketSwitch x, int[] words, int length) {
        for (int i = 0; i < words.length; i += 5) {
            x.feed(words[i], words[i + 1], words[i + 2], words[i + 3], words[i + 4]);
        }
        x.end(length);
        return x.load();
    }

    private static int loadsAndPackets(int[] words, int length) {
        PacketSwitch x = new PacketSwitch();
        int fine = 0;
        for (int i = 0; i < ROUNDS; i++) {
            fine += load(x, words, length) == PacketSwitch.NONE ? 1 : 0;
            x.feed(0x02000000, 0, 0, 0, 0);
            fine += x.packet(0) == 0 && x.octet(0) == 1 ? 1 : 0;
        }
        return fine;
    }

    private static int inserts(int[] words, int length) {
        PacketSwitch x = new PacketSwitch();
        load(x, words, length);
        int fine = 0;
        for (int i = 0; i < 200; i++) {
            fine += x.insert(0, 0, i) == i ? 1 : 0;
            fine += x.remove(i) == 0 ? 1 : 0;
        }
        return fine;
    }
}
