/** Promises 1 to 3: a new object, feed and end. */
public final class TapeTest {
    // Lets a packet out as it came in, so that the tape can be read.
    private static final String PASS = "state s { goto accept; } control { out = in; }";

    public static void main(String[] args) {
        newObject();
        bytesInOrder();
        full();
        cut();
        Expect.finish();
    }

    private static void newObject() {
        PacketSwitch x = new PacketSwitch();
        for (int what = 0; what <= 6; what++) {
            Expect.same("count " + what + " of a new object", 0, x.count(what));
        }
        Expect.same("OUT of a new object", 0, x.octet(-1));
        Expect.same("its first byte", PacketSwitch.NONE, x.octet(0));
        Expect.same("its tables", PacketSwitch.NONE, x.look(0, 0));
        Expect.same("its entries", PacketSwitch.NONE, x.hits(0));
        Expect.same("removing one", PacketSwitch.NONE, x.remove(0));
        Expect.same("its tape has nothing", PacketSwitch.REFUSED, x.end(1));
        Expect.same("end 0", 0, x.end(0));
        Expect.same("a packet without a program", PacketSwitch.NONE, x.packet(0));
        Expect.same("load of nothing", 0, x.load());
    }

    private static void bytesInOrder() {
        PacketSwitch x = Expect.loaded(PASS);
        Expect.same("feed", 20, x.feed(0x01020304, 0x05060708, 0x80ff7f00, -1, Integer.MIN_VALUE));
        Expect.same("packet", 3, x.packet(3));
        Expect.same("OUT", "010203040506070880ff7f00ffffffff80000000", Expect.out(x));
        Expect.same("a packet of nothing", 4, x.packet(4));
        Expect.same("the tape was empty", 0, x.octet(-1));
    }

    private static void full() {
        PacketSwitch x = Expect.loaded(PASS);
        for (int i = 1; i <= 100; i++) {
            Expect.same("feed " + i, 20 * i, x.feed(0, 0, 0, 0, 0));
        }
        Expect.same("feed 101", PacketSwitch.FULL, x.feed(0, 0, 0, 0, 0));
        Expect.same("nothing was lost or added", 2000, x.end(2000));
        Expect.same("one byte less", 1999, x.end(1999));
        Expect.same("no room for twenty", PacketSwitch.FULL, x.feed(1, 1, 1, 1, 1));
        Expect.same("room for nineteen only", 1981, x.end(1981));
        Expect.same("still none", PacketSwitch.FULL, x.feed(1, 1, 1, 1, 1));
        Expect.same("room for twenty", 1980, x.end(1980));
        Expect.same("to the last byte", 2000, x.feed(1, 1, 1, 1, 1));
    }

    private static void cut() {
        PacketSwitch x = Expect.loaded(PASS);
        x.feed(0x0a0b0c0d, 0x0e0f1011, 0, 0, 0);
        Expect.same("end -1", PacketSwitch.REFUSED, x.end(-1));
        Expect.same("end of the least", PacketSwitch.REFUSED, x.end(Integer.MIN_VALUE));
        Expect.same("end 21", PacketSwitch.REFUSED, x.end(21));
        Expect.same("end 20", 20, x.end(20));
        Expect.same("end 5", 5, x.end(5));
        Expect.same("end 6", PacketSwitch.REFUSED, x.end(6));
        Expect.same("feed behind the cut", 25, x.feed(0x20212223, 0, 0, 0, 0));
        Expect.same("end 7", 7, x.end(7));
        Expect.same("packet", 0, x.packet(0));
        Expect.same("OUT", "0a0b0c0d0e2021", Expect.out(x));
    }
}
