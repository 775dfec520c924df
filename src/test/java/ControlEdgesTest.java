import java.util.Random;

/** "Terms", add, remove, drop, checksum and what comes OUT: the edges that each sentence names. */
public final class ControlEdgesTest {
    private static final String HEADS = "header h{a 8;b 8;}header g{c 8;}header e{d 16;}";
    private static final String START = HEADS + "state s{extract h;goto accept;}control{";

    public static void main(String[] args) {
        adding();
        removing();
        dropping();
        checksumOfNone();
        checksumCarries();
        checksumAtEachPlace();
        orderOfDeclaration();
        whatWasNotExtracted();
        portOut();
        longestOut();
        Expect.finish();
    }

    private static void control(String statements, String in, int port, String out) {
        Expect.goes(statements, Expect.loaded(START + statements + "}"), 0, in, port, out);
    }

    private static void adding() {
        Expect.sentence("add: a header that is not valid is, with fields 0 (a valid one stays as it is)");
        control("add g;", "0102", 0, "0102 00");
        control("add g;add g;", "0102", 0, "0102 00");
        control("add h;", "0102", 0, "0102");
        control("add h;add h;h.b=5;add h;", "0102", 0, "0105");
        control("add g;g.c=7;add g;", "0102", 0, "0102 07");
        control("g.c=7;add g;", "0102", 0, "0102 00");
        control("add g;if(g.valid){out=1;}", "0102", 1, "0102 00");
        control("if(g.valid){out=1;}", "0102", 0, "0102");
        control("add g;add e;", "0102", 0, "0102 00 0000");
        control("add g;g.c=255;remove g;add g;", "0102", 0, "0102 00");
    }

    private static void removing() {
        Expect.sentence("remove: it is not");
        control("remove h;", "0102 03", 0, "03");
        control("remove g;", "0102 03", 0, "0102 03");
        control("remove h;remove h;", "0102 03", 0, "03");
        control("remove h;if(h.valid){out=1;}", "0102 03", 0, "03");
        control("remove h;if(!h.valid){out=1;}", "0102 03", 1, "03");
        control("remove h;add h;", "0102 03", 0, "0000 03");
        control("remove h;add h;h.a=h.a+1;", "0102 03", 0, "0100 03");
        control("remove h;", "0102", 0, "");
        control("add g;g.c=7;remove h;", "0102", 0, "07");
    }

    private static void dropping() {
        Expect.sentence("drop: the packet is DROPPED in the end, whatever comes");
        control("drop;", "0102", PacketSwitch.DROPPED, "");
        control("drop;drop;", "0102", PacketSwitch.DROPPED, "");
        control("drop;out=5;", "0102", PacketSwitch.DROPPED, "");
        control("out=5;drop;", "0102", PacketSwitch.DROPPED, "");
        control("drop;add g;remove h;h.a=1;", "0102", PacketSwitch.DROPPED, "");
        control("if(1<2){drop;}else{out=1;}", "0102", PacketSwitch.DROPPED, "");
        control("if(1>2){drop;}else{out=1;}", "0102", 1, "0102");
        // What comes behind it is done all the same.
        PacketSwitch x = Expect.loaded(HEADS + "action f(p 9){out=p;drop;}action n(){out=9;}"
            + "table t{key h.a exact;actions f,n;default f(3);}table u{key h.b exact,e.d exact;actions n;default n();}"
            + "state s{extract h;goto accept;}control{apply t;add e;e.d=6;apply u;}");
        x.match(0, 1, 0);
        Expect.same("insert", 0, x.insert(0, 1, 0));
        x.match(0, 2, 0);
        x.match(1, 6, 0);
        Expect.same("insert", 1, x.insert(1, 0, 0));
        Expect.goes("dropped by the default", x, 0, "0502", PacketSwitch.DROPPED, "");
        Expect.same("the second table was applied", 1, x.hits(1));
        Expect.goes("not dropped", x, 0, "0102", 9, "0102 0006");
        Expect.same("the second table was applied", 2, x.hits(1));
        Expect.same("dropped is not rejected", 0, x.count(6));
        x = Expect.loaded("header h{a 8;}header g{c 8;}meta m 8;action n(){}table t{key m exact;actions n;default n();}"
            + "state s{extract g;goto accept;}control{m=4;drop;if(h.valid||!g.valid||m!=4||out!=0||g.c!=6){apply t;}}");
        Expect.goes("dropped", x, 0, "06", PacketSwitch.DROPPED, "");
        Expect.same("it changes nothing else", 0, x.look(0, 1));
    }

    private static void checksumOfNone() {
        Expect.sentence("checksum: if the header is valid");
        String heads = "header h{a 8;}header c{x 16;y 16;}state s{extract h;goto accept;}control{";
        Expect.goes("not valid", Expect.loaded(heads + "checksum c.x;}"), 0, "05", 0, "05");
        Expect.goes("not valid, then added", Expect.loaded(heads + "checksum c.x;add c;}"), 0, "05", 0, "05 0000 0000");
        Expect.goes("its field stays 0", Expect.loaded(heads + "checksum c.x;out=c.x;}"), 0, "05", 0, "05");
        Expect.goes("added", Expect.loaded(heads + "add c;checksum c.x;}"), 0, "05", 0, "05 ffff 0000");
        Expect.goes("removed", Expect.loaded(heads + "add c;remove c;checksum c.x;add c;}"), 0, "05", 0, "05 0000 0000");
    }

    private static void checksum(String in, String due) {
        PacketSwitch x = Expect.loaded("header c{x 16;y 16;z 16;}state s{extract c;goto accept;}control{checksum c.y;}");
        Expect.goes("checksum of " + in, x, 0, in, 0, due);
    }

    private static void checksumCarries() {
        Expect.sentence("the ones' complement (16 bits) of the ones' complement sum of its 16 bit words with that field as 0");
        checksum("0000 0000 0000", "0000 ffff 0000");
        checksum("0000 ffff 0000", "0000 ffff 0000");
        checksum("0000 1234 0000", "0000 ffff 0000");
        checksum("0000 0000 0001", "0000 fffe 0001");
        checksum("0001 0000 0000", "0001 fffe 0000");
        checksum("7fff 0000 8000", "7fff 0000 8000");
        checksum("8000 0000 8000", "8000 fffe 8000");
        checksum("ffff 0000 0000", "ffff 0000 0000");
        checksum("fffe 0000 0001", "fffe 0000 0001");
        checksum("ffff 0000 0001", "ffff fffe 0001");
        checksum("ffff 0000 ffff", "ffff 0000 ffff");
        checksum("fffe ffff fffe", "fffe 0002 fffe");
    }

    private static int complement(int[] words) {
        long sum = 0;
        for (int word : words) {
            sum += word;
        }
        while (sum > 65535) {
            sum = sum % 65536 + sum / 65536;
        }
        return (int) (65535 - sum);
    }

    private static void checksumAtEachPlace() {
        Expect.sentence("of its 16 bit words (1 to 10 of them, the field each of them)");
        Random random = new Random(2);
        for (int words = 1; words <= 8; words++) {
            for (int field = 0; field < words; field++) {
                wordsOf(random, Texts.times(words, "w# 16;"), words, field, "w" + field);
            }
        }
        wordsOf(random, "a 48;b 48;c 48;x 16;", 10, 9, "x");
        wordsOf(random, "x 16;a 48;b 48;c 48;", 10, 0, "x");
        wordsOf(random, "a 3;b 13;x 16;c 1;d 31;e 48;f 7;g 41;", 10, 1, "x");
        wordsOf(random, "a 3;b 29;x 16;c 48;", 6, 2, "x");
    }

    private static void wordsOf(Random random, String fields, int count, int field, String name) {
        PacketSwitch x = Expect.loaded("header h{" + fields + "}state s{extract h;goto accept;}control{checksum h." + name + ";}");
        for (int round = 0; round < 4; round++) {
            int[] words = new int[count];
            StringBuilder in = new StringBuilder();
            StringBuilder due = new StringBuilder();
            for (int i = 0; i < count; i++) {
                words[i] = round == 0 ? 65535 : random.nextInt(65536);
                in.append(String.format("%04x", words[i]));
            }
            words[field] = 0;
            words[field] = complement(words);
            for (int word : words) {
                due.append(String.format("%04x", word));
            }
            Expect.goes("word " + field + " of " + fields, x, 0, in + "77", 0, due + "77");
        }
    }

    private static void orderOfDeclaration() {
        Expect.sentence("What comes OUT: the valid headers in the order of their declaration");
        String heads = Texts.times(6, "header h#{a 8;}");
        String back = "state s{extract h5;extract h4;extract h3;goto t;}state t{extract h2;extract h1;extract h0;goto accept;}";
        PacketSwitch x = Expect.loaded(heads + back + "control{}");
        Expect.goes("all of them", x, 0, "050403020100 77", 0, "000102030405 77");
        x = Expect.loaded(heads + back + "control{remove h0;remove h3;remove h5;}");
        Expect.goes("three of them", x, 0, "050403020100 77", 0, "010204 77");
        x = Expect.loaded(heads + back + "control{remove h0;add h0;h0.a=9;}");
        Expect.goes("one anew", x, 0, "050403020100 77", 0, "090102030405 77");
        x = Expect.loaded(heads + "state s{goto accept;}control{add h5;h5.a=5;add h0;}");
        Expect.goes("two that were added", x, 0, "77", 0, "0005 77");
    }

    private static void whatWasNotExtracted() {
        Expect.sentence("then what was not extracted");
        PacketSwitch x = Expect.loaded("header h{a 8;}state s{extract h;goto accept;}control{}");
        Expect.goes("all of it was", x, 0, "01", 0, "01");
        Expect.goes("a byte was not", x, 0, "0102", 0, "0102");
        x = Expect.loaded("header h{a 8;}state s{goto accept;}control{}");
        Expect.goes("nothing was", x, 0, "0102", 0, "0102");
        Expect.goes("of nothing", x, 0, "", 0, "");
        x = Expect.loaded("header h{a 8;}state s{extract h;extract h;extract h;goto accept;}control{remove h;}");
        Expect.goes("what was extracted and removed is gone", x, 0, "010203 04", 0, "04");
        Expect.goes("and nothing is left", x, 0, "010203", 0, "");
    }

    private static void portOut() {
        Expect.sentence("on the port out");
        control("", "0102", 0, "0102");
        control("out=511;", "0102", 511, "0102");
        control("out=512;", "0102", 0, "0102");
        control("out=5;out=6;", "0102", 6, "0102");
        control("out=0-1;", "0102", 511, "0102");
    }

    private static void longestOut() {
        Expect.sentence("the most that can come OUT");
        String text = Texts.times(6, "header h#{a 48;b 48;c 48;d 16;}") + "state s{goto accept;}control{" + Texts.times(6, "add h#;h#.d=#+1;") + "}";
        PacketSwitch x = Expect.loaded(text);
        Expect.tape(x, new byte[200]);
        Expect.same("packet", 0, x.packet(0));
        Expect.same("how many", 320, x.octet(-1));
        for (int header = 0; header < 6; header++) {
            Expect.same("the last byte of header " + header, header + 1, x.octet(20 * header + 19));
        }
        Expect.same("the last byte", 0, x.octet(319));
        Expect.same("behind it", PacketSwitch.NONE, x.octet(320));
    }
}
