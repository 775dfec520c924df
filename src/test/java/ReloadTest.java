/** Promise 4: what an object had loaded before, fine or with a fault, leaves nothing behind. */
public final class ReloadTest {
    private static final String ONE = "header h{a 8;b 8;}header g{c 16;}"
        + "meta m0 9;meta m1 18;meta m2 28;meta m3 38;meta m4 48;meta m5 1;"
        + "state s{extract h;select h.a{1:t;2/6:u;255:reject;default:accept;}}state t{extract g;goto accept;}state u{extract h;goto u;}"
        + "action f(p 9,q 8,r 4){out=p;h.b=q;m0=r;}action e(){drop;}"
        + "table k{key h.a exact,h.b lpm;actions e,f;default f(3,4,5);}table l{key m0 ternary;actions f;default f(6,7,8);}"
        + "control{apply k;if(m0>5){apply l;}else{m5=1;out=out+m5;}}";
    private static final String TWO = "meta x 3;header q{z 8;}action w(){out=out+9;}action v(o 3){q.z=o;}"
        + "state a{select x{0:b;}}state b{extract q;select q.z{9:accept;8:a;}}state c{goto accept;}"
        + "table k{key q.z ternary;actions v,w;default w();}control{apply k;apply k;x=7;out=out+x;}";
    private static final String THREE = "state s{goto accept;}control{out=in+size;}";
    private static final String[] PROGRAMS = {ONE, TWO, THREE};
    private static final String[] PACKETS = {"", "00", "01020304", "0102030405", "02030405", "08", "0809", "09", "0977", "0a0b", "ff00", "0502"};

    private static final String[] TEXTS = {
        ONE, TWO, THREE, "", "$", "control{}", "header h{a 7;}", "header h{a 8;", "meta m 8;meta n 8;meta m 8;",
        "action f(h 8,m 8,s 8){out=h;$", "action f(p 8,q 8,", "meta m 8;state s{select m{1:x;2:y;3:z;default:w;}}control{",
        "state s{goto t;}control{}", "state s{goto accept;}control{if(1<2){out=1;$", "state s{goto accept;}action f(){if(1<2){}}control{}",
        "meta m 8;action f(){}table t{key m lpm;actions f;default f();}state s{goto accept;}control{apply t;",
        "meta m 8;action f(){}table t{key m exact;actions f;default f();}action g(){apply t;}state s{goto accept;}control{}",
        "meta h 8;state s{goto accept;}control{h=1;}", "header m{a 8;}state s{extract m;goto accept;}control{m.a=m.a+1;}",
        "action f(m 8){out=m;}state s{goto accept;}control{out=m;}", "header h{a 8;}state s{goto accept;}control{h.b=1;}",
        "meta m 8;state s{select m{1:s;2:s;default:s;}}control{}", "state s{goto x;}state x{goto y;}state y{goto s;}control{}",
        "state s{goto accept;}control{" + "out=1" + Texts.times(149, "+1") + ";out=1;}",
        "state s{goto accept;}control{" + "out=1" + Texts.times(149, "+1") + ";out=1;out=1;}",
        "state s{goto accept;}control{" + Texts.times(60, "drop;") + "}", "state s{goto accept;}control{" + Texts.times(61, "drop;") + "}",
        Texts.times(6, "header h#{a 8;}") + Texts.times(6, "meta m# 8;") + Texts.times(8, "action f#(){}") + "state s{goto accept;}control{}",
    };

    public static void main(String[] args) {
        eachTextBehindEachOther();
        eachProgramBehindOthers();
        manyLongPrograms();
        Expect.finish();
    }

    private static void eachTextBehindEachOther() {
        Expect.sentence("The TAPE as a text becomes the program, or its FAULT (whatever was loaded before)");
        int[] due = new int[TEXTS.length];
        for (int i = 0; i < TEXTS.length; i++) {
            due[i] = Expect.load(new PacketSwitch(), TEXTS[i]);
        }
        for (int i = 0; i < TEXTS.length; i++) {
            for (int j = 0; j < TEXTS.length; j++) {
                PacketSwitch x = new PacketSwitch();
                Expect.same("load of " + TEXTS[i], due[i], Expect.load(x, TEXTS[i]));
                Expect.same("behind it load of " + TEXTS[j], due[j], Expect.load(x, TEXTS[j]));
                Expect.same("and again load of " + TEXTS[i], due[i], Expect.load(x, TEXTS[i]));
            }
        }
    }

    /** Lets packets through, and tells all that came of it. */
    private static String use(PacketSwitch x) {
        StringBuilder all = new StringBuilder();
        // What is made up stays over a load, and shall be the same each time.
        for (int k = 0; k < 3; k++) {
            x.match(k, 0, 0);
            x.argument(k, 0);
        }
        for (int what = 0; what <= 6; what++) {
            all.append(x.count(what)).append(' ');
        }
        for (int table = 0; table < 3; table++) {
            all.append(x.look(table, 0)).append(' ').append(x.look(table, 1)).append(' ');
            all.append(x.insert(table, 0, 5)).append(' ').append(x.hits(table)).append(' ');
            x.match(0, 5, 7);
            all.append(x.insert(table, 1, 6)).append(' ');
        }
        for (String digits : PACKETS) {
            all.append(Expect.packet(x, 7, digits)).append(' ').append(Expect.out(x)).append(' ');
        }
        for (int number = 0; number < 5; number++) {
            all.append(x.hits(number)).append(' ').append(x.look(number, 1)).append(' ');
        }
        return all.append(x.fallback(0, 0)).append(' ').append(x.count(5)).append(' ').append(x.count(6)).toString();
    }

    private static void eachProgramBehindOthers() {
        Expect.sentence("becomes the program, without entries: NONE (whatever was loaded and done before)");
        String[] due = new String[PROGRAMS.length];
        for (int i = 0; i < PROGRAMS.length; i++) {
            due[i] = use(Expect.loaded(PROGRAMS[i]));
        }
        for (int i = 0; i < PROGRAMS.length; i++) {
            for (int j = 0; j < PROGRAMS.length; j++) {
                for (int k = 0; k < PROGRAMS.length; k++) {
                    PacketSwitch x = Expect.loaded(PROGRAMS[i]);
                    use(x);
                    Expect.same("second", PacketSwitch.NONE, Expect.load(x, PROGRAMS[j]));
                    Expect.same("the second, " + i + " before " + j, due[j], use(x));
                    Expect.same("third", PacketSwitch.NONE, Expect.load(x, PROGRAMS[k]));
                    Expect.same("the third, " + i + " and " + j + " before " + k, due[k], use(x));
                }
            }
        }
    }

    private static void manyLongPrograms() {
        Expect.sentence("at most 300 PARTS and signs OP: all that each of many programs can have");
        PacketSwitch x = new PacketSwitch();
        for (int i = 0; i < 20; i++) {
            String text = Texts.times(6, "meta m# 8;") + "state s{goto accept;}control{out=" + i + Texts.times(149, "+1") + ";out=out;}";
            Expect.same("load " + i, PacketSwitch.NONE, Expect.load(x, text));
            Expect.same("packet", i + 149, x.packet(0));
            Expect.same("metas", 6, x.count(1));
        }
    }
}
