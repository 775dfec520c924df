/** "An object is used for at most 512 calls after it has been made": the last of them answers as the first. */
public final class LastCallTest {
    private static final int CALLS = 512;
    private static final String TEXT = "header h{a 8;}action f(p 9){out=p;}table t{key h.a exact;actions f;default f(5);}"
        + "state s{goto accept;}control{apply t;}";

    private static int calls;

    public static void main(String[] args) {
        inserts();
        packets();
        loads();
        feeds();
        madeUp();
        Expect.finish();
    }

    /** A new object with the program, and how many calls that took. */
    private static PacketSwitch loaded(String text) {
        calls = (text.length() + 19) / 20 + 2;
        return Expect.loaded(text);
    }

    private static void inserts() {
        PacketSwitch x = loaded(TEXT);
        int number = 0;
        for (; calls + 2 <= CALLS; calls += 2) {
            Expect.same("insert at call " + calls, number, x.insert(0, 0, number));
            Expect.same("remove at call " + calls, 0, x.remove(number));
            number++;
        }
        Expect.that("so many entries " + number, number > 240);
        x = loaded(TEXT);
        for (number = 0; number < 24; number++) {
            Expect.same("insert", number, x.insert(0, 0, number));
        }
        for (calls += 24; calls + 2 <= CALLS; calls += 2) {
            Expect.same("remove at call " + calls, 23, x.remove(number - 24));
            Expect.same("insert at call " + calls, number, x.insert(0, 0, number));
            number++;
        }
    }

    private static void packets() {
        PacketSwitch x = loaded(TEXT);
        x.insert(0, 0, 0);
        int count = 0;
        for (calls++; calls + 2 <= CALLS; calls++) {
            Expect.same("packet at call " + calls, 0, x.packet(0));
            count++;
        }
        Expect.same("hits at call " + CALLS, count, x.hits(0));
        x = loaded(TEXT);
        count = 0;
        for (; calls + 3 <= CALLS; calls++) {
            Expect.same("packet at call " + calls, 5, x.packet(0));
            count++;
        }
        Expect.same("defaults done", count, x.look(0, 1));
        Expect.same("packets at the last call", count, x.count(5));
        x = loaded("state s{goto reject;}control{}");
        count = 0;
        for (; calls + 2 <= CALLS; calls++) {
            Expect.same("packet at call " + calls, PacketSwitch.DROPPED, x.packet(0));
            count++;
        }
        Expect.same("rejected at the last call", count, x.count(6));
    }

    private static void loads() {
        PacketSwitch x = loaded(TEXT);
        for (; calls + 1 <= CALLS; calls++) {
            Expect.same("load of nothing at call " + calls, 0, x.load());
        }
        x = loaded(TEXT);
        String text = "state s{goto s;}control{}";
        for (; calls + 6 <= CALLS; calls += 6) {
            Expect.same("load at call " + calls, PacketSwitch.NONE, Expect.load(x, text));
            Expect.same("packet", PacketSwitch.DROPPED, x.packet(0));
            Expect.same("rejected", 1, x.count(6));
        }
    }

    private static void feeds() {
        PacketSwitch x = new PacketSwitch();
        for (int i = 1; i <= CALLS; i++) {
            Expect.same("feed " + i, i <= 100 ? 20 * i : PacketSwitch.FULL, x.feed(i, i, i, i, i));
        }
        x = new PacketSwitch();
        for (int i = 0; i < CALLS; i += 2) {
            Expect.same("feed at call " + i, 20, x.feed(i, i, i, i, i));
            Expect.same("end at call " + i, 0, x.end(0));
        }
    }

    private static void madeUp() {
        PacketSwitch x = loaded(TEXT);
        for (calls++; calls + 2 <= CALLS; calls += 2) {
            Expect.same("match at call " + calls, 0, x.match(0, 7, calls));
            Expect.same("argument at call " + calls, 0, x.argument(0, calls));
        }
        Expect.same("insert at the last call", 0, x.insert(0, 0, 0));
    }
}
