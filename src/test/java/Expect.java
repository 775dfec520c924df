import java.nio.charset.StandardCharsets;

/** What the tests share: comparing answers, and feeding texts and packets. */
final class Expect {
    private static final int LONGEST = 300;

    private static int compared = 0;
    private static int wrong = 0;
    private static String sentence = "";

    private Expect() {
    }

    /** The words of the document that the answers from here on belong to. */
    static void sentence(String words) {
        sentence = "\"" + words + "\": ";
    }

    static void same(String what, long due, long got) {
        compared++;
        if (due != got) {
            wrong++;
            System.out.println(sentence + shortened(what) + " answered " + got + ", due is " + due);
        }
    }

    static void same(String what, String due, String got) {
        compared++;
        if (!due.equals(got)) {
            wrong++;
            System.out.println(sentence + shortened(what) + " gave " + got + ", due is " + due);
        }
    }

    private static String shortened(String what) {
        return what.length() <= LONGEST ? what : what.substring(0, LONGEST) + " ..";
    }

    static void that(String what, boolean holds) {
        same(what, 1, holds ? 1 : 0);
    }

    /** Ends the test: exit code 1 if an answer was wrong. */
    static void finish() {
        System.out.println(compared + " answers, " + wrong + " wrong");
        if (wrong != 0 || compared == 0) {
            System.exit(1);
        }
    }

    /** Puts bytes on an empty tape. */
    static void tape(PacketSwitch x, byte[] bytes) {
        for (int at = 0; at < bytes.length; at += 20) {
            int[] words = new int[5];
            for (int i = 0; i < 20; i++) {
                int octet = at + i < bytes.length ? bytes[at + i] & 255 : 0;
                words[i / 4] |= octet << (24 - 8 * (i % 4));
            }
            same("feed", at + 20, x.feed(words[0], words[1], words[2], words[3], words[4]));
        }
        same("end", bytes.length, x.end(bytes.length));
    }

    static byte[] bytesOf(String text) {
        return text.getBytes(StandardCharsets.ISO_8859_1);
    }

    static int load(PacketSwitch x, String text) {
        tape(x, bytesOf(text));
        return x.load();
    }

    /** A new object with a program that has no fault. */
    static PacketSwitch loaded(String text) {
        PacketSwitch x = new PacketSwitch();
        same("load of " + text, PacketSwitch.NONE, load(x, text));
        return x;
    }

    /** Bytes are written as pairs of hexadecimal digits, with blanks anywhere. */
    static byte[] hex(String digits) {
        String all = digits.replace(" ", "");
        byte[] bytes = new byte[all.length() / 2];
        for (int i = 0; i < bytes.length; i++) {
            bytes[i] = (byte) Integer.parseInt(all.substring(2 * i, 2 * i + 2), 16);
        }
        return bytes;
    }

    static int packet(PacketSwitch x, int port, String digits) {
        tape(x, hex(digits));
        return x.packet(port);
    }

    /** OUT in hexadecimal digits. */
    static String out(PacketSwitch x) {
        StringBuilder digits = new StringBuilder();
        int length = x.octet(-1);
        for (int i = 0; i < length; i++) {
            digits.append(String.format("%02x", x.octet(i)));
        }
        same("octet behind the last", PacketSwitch.NONE, x.octet(length));
        return digits.toString();
    }

    /** A packet goes through: the port that is due, and OUT. */
    static void goes(String what, PacketSwitch x, int port, String in, int duePort, String dueOut) {
        same(what + ": packet " + in, duePort, packet(x, port, in));
        same(what + ": out of " + in, dueOut.replace(" ", ""), out(x));
    }
}
