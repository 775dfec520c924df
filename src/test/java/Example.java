import java.nio.charset.StandardCharsets;

/** README.md shows this: a text is fed and loaded, a table filled, a packet sent through and read out. */
public final class Example {
    private static final String TEXT = """
        header eth { dst 16; src 16; type 8; }
        header ip { ttl 8; pad 8; sum 16; to 32; }
        state start { extract eth; select eth.type { 4: net; default: accept; } }
        state net { extract ip; goto accept; }
        action fwd(port 9, mac 16) { out = port; eth.dst = mac; ip.ttl = ip.ttl - 1; }
        action lost() { drop; }
        table route { key ip.to lpm; actions fwd, lost; default lost(); }
        control { if (ip.valid && ip.ttl > 1) { apply route; checksum ip.sum; } else { drop; } }
        """;

    public static void main(String[] args) {
        PacketSwitch x = new PacketSwitch();

        // The text becomes the program: NONE (-2), or the place of its fault.
        put(x, TEXT.getBytes(StandardCharsets.ISO_8859_1));
        System.out.println("load: " + x.load());

        // An entry for 10.0.0.0/8 in table 0 (route), with its action 0 (fwd) and priority 0.
        x.match(0, 0x0a000000L, 8);
        x.argument(0, 5);
        x.argument(1, 0x0aaa);
        int entry = x.insert(0, 0, 0);
        System.out.println("insert: " + entry);

        // A packet to 10.0.0.1 comes on port 2; the answer is the port on which it goes out.
        put(x, new byte[] {0, 1, 0, 2, 4, 64, 0, 0, 0, 10, 0, 0, 1, 'h', 'i'});
        System.out.println("packet: " + x.packet(2));
        System.out.println("out:" + out(x));

        // One to 11.0.0.1 finds no entry, and the default drops it: DROPPED (-5), and OUT is empty.
        put(x, new byte[] {0, 1, 0, 2, 4, 64, 0, 0, 0, 11, 0, 0, 1, 'h', 'i'});
        System.out.println("packet: " + x.packet(2));
        System.out.println("out:" + out(x));

        System.out.println("hits: " + x.hits(entry) + ", defaults: " + x.look(0, 1) + ", packets: " + x.count(5));
    }

    /** Puts bytes on the empty tape: twenty a call, four in each int, then what is too much is cut off. */
    private static void put(PacketSwitch x, byte[] bytes) {
        for (int at = 0; at < bytes.length; at += 20) {
            x.feed(word(bytes, at), word(bytes, at + 4), word(bytes, at + 8), word(bytes, at + 12), word(bytes, at + 16));
        }
        x.end(bytes.length);
    }

    /** Four bytes, the highest first; 0 behind the last one. */
    private static int word(byte[] bytes, int at) {
        int word = 0;
        for (int i = at; i < at + 4; i++) {
            word = word << 8 | (i < bytes.length ? bytes[i] & 255 : 0);
        }
        return word;
    }

    private static String out(PacketSwitch x) {
        StringBuilder text = new StringBuilder();
        for (int i = 0; i < x.octet(-1); i++) {
            text.append(String.format(" %02x", x.octet(i)));
        }
        return text.toString();
    }
}
