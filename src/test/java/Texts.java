/** What the tests of texts share: texts that are fine, and the places of other texts' faults. */
final class Texts {
    static final String STATE = "state s{goto accept;}";

    private Texts() {
    }

    static void fine(String text) {
        Expect.same("load of " + text, PacketSwitch.NONE, Expect.load(new PacketSwitch(), text));
    }

    static void faultAt(int place, String text) {
        Expect.same("load of " + text, place, Expect.load(new PacketSwitch(), text));
    }

    /** A text in which @ stands before the fault. */
    static void fault(String marked) {
        int place = marked.indexOf('@');
        String text = marked.replace("@", "");
        Expect.same("load of " + marked, place, Expect.load(new PacketSwitch(), text));
    }

    /** So many copies, in which # is the number of the copy. */
    static String times(int count, String text) {
        StringBuilder all = new StringBuilder();
        for (int i = 0; i < count; i++) {
            all.append(text.replace("#", Integer.toString(i)));
        }
        return all.toString();
    }

    /** Each number of copies of a thing up to one more than there may be: that one is the fault. */
    static void atMost(int limit, String before, String thing, String behind) {
        for (int count = 0; count <= limit; count++) {
            fine(before + times(count, thing) + behind);
        }
        String full = before + times(limit, thing);
        faultAt(full.length(), full + thing.replace("#", Integer.toString(limit)) + behind);
    }
}
