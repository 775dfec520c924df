/** Promise 4: how much of each thing a program may have, and where the FAULT is for one too much. */
public final class LimitTest {
    private static final String STATE = "state s{goto accept;}";

    public static void main(String[] args) {
        declarations();
        cases();
        statements();
        parts();
        ifs();
        longText();
        Expect.finish();
    }

    private static void fault(String before, String from) {
        Expect.same("load of " + before + "@" + from, before.length(),
            Expect.load(new PacketSwitch(), before + from));
    }

    private static void fine(String text) {
        Expect.same("load of " + text, PacketSwitch.NONE, Expect.load(new PacketSwitch(), text));
    }

    /** So many copies, in which # is the number of the copy. */
    private static String times(int count, String text) {
        StringBuilder all = new StringBuilder();
        for (int i = 0; i < count; i++) {
            all.append(text.replace("#", Integer.toString(i)));
        }
        return all.toString();
    }

    private static void declarations() {
        String tables = "meta m 8;action b(){}" + times(4, "table t#{key m exact;actions b;default b();}");
        fine(times(6, "header h#{a 8;}") + STATE + "control{}");
        fault(times(6, "header h#{a 8;}"), "header g{a 8;}" + STATE + "control{}");
        fine(times(6, "meta h# 8;") + STATE + "control{}");
        fault(times(6, "meta h# 8;"), "meta g 8;" + STATE + "control{}");
        fine(times(8, "state h#{goto accept;}") + "control{}");
        fault(times(8, "state h#{goto accept;}"), "state g{goto accept;}control{}");
        fine(times(8, "action h#(){}") + STATE + "control{}");
        fault(times(8, "action h#(){}"), "action g(){}" + STATE + "control{}");
        fine(tables + STATE + "control{}");
        fault(tables, "table g{key m exact;actions b;default b();}" + STATE + "control{}");
        fine(times(6, "header h#{a 8;}") + times(6, "meta m# 8;") + times(8, "state s#{goto s0;}")
            + times(8, "action a#(){}") + times(4, "table t#{key m0 exact;actions a0;default a0();}")
            + "control{}");
        fault(times(6, "header h#{a 8;}") + times(6, "meta m# 8;") + times(8, "state s#{goto s0;}")
            + times(8, "action a#(){}") + times(4, "table t#{key m0 exact;actions a0;default a0();}"),
            "meta x 8;control{}");
    }

    private static void cases() {
        String open = "meta m 8;state s{select m{" + times(8, "#:accept;");
        fine(open + "default:reject;}}control{}");
        fine(open + "}}control{}");
        fault(open, "8:accept;}}control{}");
    }

    private static void statements() {
        fine(STATE + "control{" + times(60, "drop;") + "}");
        fault(STATE + "control{" + times(60, "drop;"), "drop;}");
        fine("action a(){" + times(30, "drop;") + "}" + STATE + "control{" + times(30, "drop;") + "}");
        fault("action a(){" + times(30, "drop;") + "}" + STATE + "control{" + times(30, "drop;"), "drop;}");
        fault("action a(){" + times(60, "drop;"), "drop;}");
        // An if is a statement, and so is each one in it.
        fine(STATE + "control{" + times(30, "if(1<2){drop;}") + "}");
        fine(STATE + "control{" + times(20, "if(1<2){drop;}else{drop;}") + "}");
        fault(STATE + "control{" + times(20, "if(1<2){drop;}else{drop;}"), "if(1<2){drop;}}");
        fault(STATE + "control{" + times(59, "drop;") + "if(1<2){", "drop;}}");
    }

    private static void parts() {
        // 150 parts and 149 signs, then one part more.
        String most = "out=1" + times(149, "+1") + ";";
        fine(STATE + "control{" + most + "out=1;}");
        fault(STATE + "control{" + most + "out=1", "+1;}");
        fault(STATE + "control{" + most + "out=1;out=", "1;}");
        fault(STATE + "control{" + most + "out=1;out=(", "1);}");
        fault(STATE + "control{out=1" + times(149, "+1") + "+", "1;}");
        fine(STATE + "control{" + most + "out=((1));}");
        fault("meta m 8;" + STATE + "control{" + most + "if(1<", "m){}}");
        fault("meta m 8;" + STATE + "control{" + most + "out=1;if(", "m<1){}}");
        fine("header h{a 8;}" + STATE + "control{" + most + "out=1;if(h.valid){drop;}}");
        fault("header h{a 8;}" + STATE + "control{" + most + "out=1;if(h.valid&&", "h.a<1){drop;}}");
        fault("action a(){" + most + "}" + STATE + "control{out=1;out=", "1;}");
    }

    private static void ifs() {
        fine(STATE + "control{" + times(6, "if(1<2){") + "drop;" + times(6, "}") + "}");
        fault(STATE + "control{" + times(6, "if(1<2){"), "if(1<2){" + times(8, "}"));
        fine(STATE + "control{" + times(6, "if(1<2){}else{") + "drop;" + times(6, "}") + "}");
        fault(STATE + "control{" + times(6, "if(1<2){}else{"), "if(1<2){}" + times(7, "}"));
        fine(STATE + "control{" + times(7, "if(1<2){}") + "}");
    }

    private static void longText() {
        String start = "header h{a 8;}" + STATE + "control{if(h.valid";
        String middle = times((2000 - start.length() - 3) / 10, "&&!h.valid");
        String end = "){}}";
        String text = start + middle;
        fine(text + times(2000 - text.length() - end.length(), " ") + end);
        fault(text + times(2000 - text.length(), " "), "");
        fault(times(2000, "\n"), "");
        fault("", times(2000, "{"));
        fault("header ", times(1993, "a"));
        fault("meta m ", times(1993, "9"));
        fine("meta m " + times(1950 - STATE.length(), "0") + "8;" + STATE + "control{}");
        fault("header h{a 8;}" + STATE + "control{if(!!!!!!", times(1900, "!"));
        fault("header h{a 8;}" + STATE + "control{out=((((((", times(1900, "("));
    }
}
