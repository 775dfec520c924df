/** Promises 5 to 9, match, argument, insert, remove and fallback: the edges that each sentence names. */
public final class InsertEdgesTest {
    private static final String KINDS = "exact lpm ternary";
    private static final long TOP = (1L << 48) - 1;
    private static final int[] FAR = {Integer.MIN_VALUE, -2, -1, 3, 4, 100, Integer.MAX_VALUE};

    public static void main(String[] args) {
        numbersOfKeys();
        numbersOfArguments();
        zeroAtFirst();
        numbersOfTablesAndActions();
        numbersOfEntries();
        anotherOneIsBegun();
        values();
        masks();
        prefixes();
        bitsOutside();
        arguments();
        there();
        full();
        whichComesFirst();
        whatMeansNothing();
        removing();
        fallbacks();
        Expect.finish();
    }

    /** Three keys of a width, the last of them of a kind; two actions, of three parameters and of none. */
    private static PacketSwitch withKeys(int width, String kind) {
        return Expect.loaded("meta m " + width + ";meta n 8;action f(p 4," + "q 8,r " + width + "){}action g(){}"
            + "table t{key n exact,n ternary,m " + kind + ";actions f,g;default g();}"
            + "table u{key m " + kind + ";actions g;default g();}" + Texts.STATE + "control{apply t;}");
    }

    /** An entry of the second table, whose one key it is; it goes again if it came. */
    private static void key(PacketSwitch x, boolean comes, long value, long mask) {
        Expect.same("match", 0, x.match(0, value, mask));
        int answer = x.insert(1, 0, 0);
        Expect.that("key " + value + "/" + mask + " gave " + answer, comes ? answer >= 0 : answer == PacketSwitch.REFUSED);
        if (answer >= 0) {
            Expect.same("remove", 0, x.remove(answer));
        }
    }

    private static void numbersOfKeys() {
        Expect.sentence("Key k (0 to 2) of the entry that is made up: k. REFUSED for another k");
        PacketSwitch x = new PacketSwitch();
        for (int k = 0; k <= 2; k++) {
            Expect.same("match " + k, k, x.match(k, 0, 0));
            Expect.same("match " + k, k, x.match(k, Long.MIN_VALUE, Long.MAX_VALUE));
            Expect.same("match " + k, k, x.match(k, Long.MAX_VALUE, Long.MIN_VALUE));
        }
        for (int k : FAR) {
            Expect.same("match " + k, PacketSwitch.REFUSED, x.match(k, 0, 0));
        }
    }

    private static void numbersOfArguments() {
        Expect.sentence("Argument k (0 to 2) of the entry that is made up: k. REFUSED for another k");
        PacketSwitch x = new PacketSwitch();
        for (int k = 0; k <= 2; k++) {
            Expect.same("argument " + k, k, x.argument(k, 0));
            Expect.same("argument " + k, k, x.argument(k, Long.MIN_VALUE));
            Expect.same("argument " + k, k, x.argument(k, Long.MAX_VALUE));
        }
        for (int k : FAR) {
            Expect.same("argument " + k, PacketSwitch.REFUSED, x.argument(k, 0));
        }
    }

    private static void zeroAtFirst() {
        Expect.sentence("(both 0 at first)");
        PacketSwitch x = Expect.loaded("header h{a 8;b 8;c 8;}action f(p 9,q 9,r 9){out=p+q+r+7;}"
            + "table t{key h.a exact,h.b lpm,h.c ternary;actions f;default f(1,1,1);}state s{extract h;goto accept;}control{apply t;}");
        Expect.same("insert", 0, x.insert(0, 0, 0));
        Expect.goes("its value is 0, its prefix and its mask are", x, 0, "00 ff ff", 7, "00 ff ff");
        Expect.goes("another value", x, 0, "01 00 00", 10, "01 00 00");
        Expect.same("hits", 1, x.hits(0));
    }

    private static void numbersOfTablesAndActions() {
        Expect.sentence("NONE if there is no such table or action");
        String text = "meta m 8;" + Texts.times(4, "action f#(){}") + "table a{key m exact;actions f0;default f0();}"
            + "table b{key m exact;actions f1,f0;default f0();}table c{key m exact;actions f0,f1,f2;default f0();}"
            + "table d{key m exact;actions f3,f2,f1,f0;default f0();}" + Texts.STATE + "control{}";
        PacketSwitch x = Expect.loaded(text);
        int number = 0;
        for (int table = -1; table <= 5; table++) {
            for (int action = -1; action <= 5; action++) {
                boolean there = table >= 0 && table <= 3 && action >= 0 && action <= table;
                String what = table + ", " + action;
                Expect.same("insert " + what, there ? number : PacketSwitch.NONE, x.insert(table, action, action));
                Expect.same("fallback " + what, there ? 0 : PacketSwitch.NONE, x.fallback(table, action));
                number += there ? 1 : 0;
            }
        }
        for (int far : FAR) {
            Expect.same("table " + far, far == 3 ? 10 : PacketSwitch.NONE, x.insert(far, 0, 77));
            Expect.same("action " + far, PacketSwitch.NONE, x.insert(0, far, 77));
            Expect.same("table " + far, far == 3 ? 0 : PacketSwitch.NONE, x.fallback(far, 0));
            Expect.same("action " + far, PacketSwitch.NONE, x.fallback(0, far));
            Expect.same("without a program", PacketSwitch.NONE, new PacketSwitch().insert(far, far, far));
            Expect.same("without a program", PacketSwitch.NONE, new PacketSwitch().fallback(far, far));
        }
        PacketSwitch none = Expect.loaded(Texts.STATE + "control{}");
        Expect.same("a program without tables", PacketSwitch.NONE, none.insert(0, 0, 0));
        Expect.same("a program without tables", PacketSwitch.NONE, none.fallback(0, 0));
    }

    private static void numbersOfEntries() {
        Expect.sentence("its number (0 for the first one of a program, and so on; none comes twice in a program, whatever was removed)");
        PacketSwitch x = withKeys(8, "exact");
        for (int i = 0; i < 100; i++) {
            Expect.same("insert", i, x.insert(i % 2, 1 - i % 2, i));
            if (i % 3 != 0) {
                Expect.that("remove " + i, x.remove(i) >= 0);
            }
        }
        for (int i = 0; i < 100; i++) {
            Expect.same("hits " + i, i % 3 == 0 ? 0 : PacketSwitch.NONE, x.hits(i));
        }
        String again = "meta m 8;action g(){}table t{key m exact;actions g;default g();}" + Texts.STATE + "control{}";
        Expect.same("a new program", PacketSwitch.NONE, Expect.load(x, again));
        Expect.same("begins at 0", 0, x.insert(0, 0, 0));
        Expect.same("a fault", 0, Expect.load(x, "x"));
        Expect.same("goes on", 1, x.insert(0, 0, 1));
    }

    private static void anotherOneIsBegun() {
        Expect.sentence("another one is begun");
        PacketSwitch x = withKeys(8, "ternary");
        x.match(0, 1, 0);
        x.match(1, 2, 2);
        x.match(2, 4, 4);
        x.argument(0, 9);
        Expect.same("insert", 0, x.insert(0, 0, 0));
        Expect.same("all is 0 again", 1, x.insert(0, 0, 0));
        Expect.same("and again", PacketSwitch.THERE, x.insert(0, 0, 0));
        x.match(0, 1, 0);
        x.match(1, 2, 2);
        x.match(2, 4, 4);
        Expect.same("the first one is there", PacketSwitch.THERE, x.insert(0, 0, 0));
        Expect.same("insert", 2, x.insert(0, 0, 1));
        Expect.same("fallback begins another, too", 0, x.fallback(0, 1));
        Expect.same("all is 0", PacketSwitch.THERE, x.insert(0, 0, 0));
    }

    private static void values() {
        Expect.sentence("REFUSED if the value of one of its keys is not below 2 to its width, or below 0");
        for (int width = 1; width <= 48; width++) {
            for (String kind : KINDS.split(" ")) {
                PacketSwitch x = withKeys(width, kind);
                long top = (1L << width) - 1;
                long all = kind.equals("lpm") ? width : top;
                key(x, true, 0, all);
                key(x, true, 1, all);
                key(x, true, top, all);
                for (long wrong : new long[] {top + 1, top + 2, 2 * top + 1, 1L << 48, -1, -2, Long.MIN_VALUE, Long.MAX_VALUE}) {
                    key(x, false, wrong, all);
                    key(x, false, wrong, wrong);
                }
            }
        }
        PacketSwitch x = withKeys(8, "exact");
        for (int k = 0; k < 3; k++) {
            x.match(k, 256, 0);
            Expect.same("key " + k, PacketSwitch.REFUSED, x.insert(0, 1, 0));
            x.match(k, -1, 255);
            Expect.same("key " + k, PacketSwitch.REFUSED, x.insert(0, 1, 0));
            x.match(k, 0, 0);
        }
        Expect.same("none of them", 0, x.insert(0, 1, 0));
    }

    private static void masks() {
        Expect.sentence("REFUSED if a mask (ternary) is not below 2 to its width, or below 0");
        for (int width = 1; width <= 48; width++) {
            PacketSwitch x = withKeys(width, "ternary");
            long top = (1L << width) - 1;
            key(x, true, 0, 0);
            key(x, true, 0, 1);
            key(x, true, 0, top);
            for (long wrong : new long[] {top + 1, 2 * top + 1, 1L << 48, -1, Long.MIN_VALUE, Long.MAX_VALUE}) {
                key(x, false, 0, wrong);
                key(x, false, 1, wrong);
            }
        }
    }

    private static void prefixes() {
        Expect.sentence("REFUSED if a prefix is not 0 to the width");
        for (int width = 1; width <= 48; width++) {
            PacketSwitch x = withKeys(width, "lpm");
            for (int prefix = 0; prefix <= width; prefix++) {
                key(x, true, 0, prefix);
            }
            for (long wrong : new long[] {-1, width + 1, 64, 65, 1L << 32, (1L << 32) + width, Long.MIN_VALUE, Long.MAX_VALUE}) {
                key(x, false, 0, wrong);
            }
        }
    }

    private static void bitsOutside() {
        Expect.sentence("REFUSED if a value has bits outside its mask or prefix");
        for (int width : new int[] {1, 7, 8, 9, 31, 32, 33, 47, 48}) {
            PacketSwitch masked = withKeys(width, "ternary");
            PacketSwitch prefixed = withKeys(width, "lpm");
            for (int bit = 0; bit < width; bit++) {
                long value = 1L << bit;
                key(masked, true, value, value);
                key(masked, false, value, (1L << width) - 1 ^ value);
                // The prefix that ends with the bit, and the one that ends before it.
                key(prefixed, true, value, width - bit);
                key(prefixed, false, value, width - bit - 1);
            }
        }
        PacketSwitch x = withKeys(8, "ternary");
        key(x, true, 5, 7);
        key(x, true, 5, 5);
        key(x, false, 5, 4);
        key(x, false, 5, 1);
        key(x, false, 5, 0);
    }

    private static void arguments() {
        Expect.sentence("REFUSED if an argument is not below 2 to its width, or below 0");
        for (int width = 1; width <= 48; width++) {
            PacketSwitch x = withKeys(width, "exact");
            long top = (1L << width) - 1;
            for (long wrong : new long[] {top + 1, 2 * top + 1, 1L << 48, -1, Long.MIN_VALUE, Long.MAX_VALUE}) {
                x.argument(2, wrong);
                Expect.same("argument " + wrong, PacketSwitch.REFUSED, x.insert(0, 0, 0));
                Expect.same("for fallback", PacketSwitch.REFUSED, x.fallback(0, 0));
            }
            x.argument(2, top);
            Expect.same("argument " + top, 0, x.insert(0, 0, 0));
            x.argument(2, top);
            Expect.same("for fallback", 0, x.fallback(0, 0));
        }
        PacketSwitch x = withKeys(8, "exact");
        x.argument(0, 15);
        x.argument(1, 255);
        x.argument(2, 255);
        long[] above = {16, 256, 256};
        for (int k = 0; k < 3; k++) {
            x.argument(k, above[k]);
            Expect.same("argument " + k, PacketSwitch.REFUSED, x.insert(0, 0, 0));
            x.argument(k, above[k] - 1);
        }
        Expect.same("none of them", 0, x.insert(0, 0, 0));
    }

    private static int three(PacketSwitch x, long[] keys, int action, int priority) {
        x.match(0, keys[0], keys[1]);
        x.match(1, keys[2], keys[3]);
        x.match(2, keys[4], keys[5]);
        return x.insert(0, action, priority);
    }

    private static void there() {
        Expect.sentence("THERE if there is one in the table with the same values, masks, prefix and priority, whatever its action");
        PacketSwitch x = withKeys(8, "lpm");
        Expect.same("the first", 0, three(x, new long[] {1, 0, 2, 2, 4, 6}, 0, 5));
        Expect.same("the same", PacketSwitch.THERE, three(x, new long[] {1, 0, 2, 2, 4, 6}, 0, 5));
        Expect.same("another action", PacketSwitch.THERE, three(x, new long[] {1, 0, 2, 2, 4, 6}, 1, 5));
        Expect.same("another mask of an exact key", PacketSwitch.THERE, three(x, new long[] {1, 9, 2, 2, 4, 6}, 0, 5));
        x.argument(0, 3);
        Expect.same("another argument", PacketSwitch.THERE, three(x, new long[] {1, 0, 2, 2, 4, 6}, 0, 5));
        Expect.same("another value", 1, three(x, new long[] {2, 0, 2, 2, 4, 6}, 0, 5));
        Expect.same("another value", 2, three(x, new long[] {1, 0, 0, 2, 4, 6}, 0, 5));
        Expect.same("another mask", 3, three(x, new long[] {1, 0, 2, 3, 4, 6}, 0, 5));
        Expect.same("another value", 4, three(x, new long[] {1, 0, 2, 2, 8, 6}, 0, 5));
        Expect.same("another prefix", 5, three(x, new long[] {1, 0, 2, 2, 4, 7}, 0, 5));
        Expect.same("another priority", 6, three(x, new long[] {1, 0, 2, 2, 4, 6}, 0, 6));
        Expect.same("another priority", 7, three(x, new long[] {1, 0, 2, 2, 4, 6}, 0, -5));
        Expect.same("the first goes", 7, x.remove(0));
        Expect.same("it comes again", 8, three(x, new long[] {1, 0, 2, 2, 4, 6}, 1, 5));
        Expect.same("the same", PacketSwitch.THERE, three(x, new long[] {1, 0, 2, 2, 4, 6}, 0, 5));
        x = withKeys(8, "exact");
        Expect.same("one table", 0, x.insert(0, 1, 0));
        Expect.same("the other", 1, x.insert(1, 0, 0));
    }

    private static void full() {
        Expect.sentence("FULL if the table has 24");
        PacketSwitch x = withKeys(8, "exact");
        for (int i = 0; i < 24; i++) {
            Expect.same("insert", i, x.insert(0, 1, i));
        }
        Expect.same("one more", PacketSwitch.FULL, x.insert(0, 1, 24));
        Expect.same("entries", 24, x.look(0, 0));
        Expect.same("the other table", 24, x.insert(1, 0, 24));
        for (int i = 25; i < 48; i++) {
            Expect.same("insert", i, x.insert(1, 0, i));
        }
        Expect.same("one more", PacketSwitch.FULL, x.insert(1, 0, 100));
        Expect.same("one goes", 23, x.remove(0));
        Expect.same("that is room for one", 48, x.insert(0, 1, 0));
        Expect.same("not for two", PacketSwitch.FULL, x.insert(0, 1, 100));
        Expect.same("nor in the other", PacketSwitch.FULL, x.insert(1, 0, 100));
    }

    private static void whichComesFirst() {
        Expect.sentence("NONE, REFUSED, THERE, FULL (in their order)");
        PacketSwitch x = withKeys(8, "exact");
        for (int i = 0; i < 24; i++) {
            x.insert(0, 1, i);
        }
        Expect.same("THERE before FULL", PacketSwitch.THERE, x.insert(0, 1, 0));
        Expect.same("FULL", PacketSwitch.FULL, x.insert(0, 1, -1));
        x.argument(2, 256);
        Expect.same("REFUSED before THERE", PacketSwitch.REFUSED, x.insert(0, 0, 0));
        Expect.same("REFUSED before FULL", PacketSwitch.REFUSED, x.insert(0, 0, -1));
        Expect.same("NONE before REFUSED", PacketSwitch.NONE, x.insert(0, 2, 0));
        Expect.same("NONE before REFUSED", PacketSwitch.NONE, x.insert(2, 0, 0));
        Expect.same("NONE before REFUSED", PacketSwitch.NONE, x.fallback(0, 2));
        x.match(0, 256, 0);
        Expect.same("REFUSED before THERE", PacketSwitch.REFUSED, x.insert(0, 1, 0));
    }

    private static void whatMeansNothing() {
        Expect.sentence("(The masks of exact keys, and what there are no keys and parameters for, mean nothing.)");
        PacketSwitch x = withKeys(8, "exact");
        for (long any : new long[] {-1, 256, Long.MIN_VALUE, Long.MAX_VALUE}) {
            x.match(0, 5, any);
            x.match(1, any, any);
            x.match(2, any, any);
            for (int k = 0; k < 3; k++) {
                x.argument(k, any);
            }
            int number = x.insert(1, 0, 0);
            Expect.that("insert with " + any, number >= 0);
            x.match(0, 5, 0);
            Expect.same("the same without", PacketSwitch.THERE, x.insert(1, 0, 0));
            x.remove(number);
            x.match(0, any, any);
            x.argument(0, any);
            Expect.same("keys mean nothing to fallback", 0, x.fallback(1, 0));
        }
        x.argument(0, 15);
        x.argument(1, 256);
        Expect.same("one of more parameters does", PacketSwitch.REFUSED, x.fallback(0, 0));
        Expect.same("an action without does not", 0, x.fallback(0, 1));
    }

    private static void removing() {
        Expect.sentence("An entry goes: how many its table has then. NONE if there is none");
        PacketSwitch x = withKeys(8, "exact");
        for (int far : FAR) {
            Expect.same("remove " + far, PacketSwitch.NONE, x.remove(far));
            Expect.same("without a program", PacketSwitch.NONE, new PacketSwitch().remove(far));
        }
        for (int i = 0; i < 24; i++) {
            x.insert(0, 1, i);
        }
        Expect.same("one of the other table", 24, x.insert(1, 0, 0));
        Expect.same("remove 24", 0, x.remove(24));
        Expect.same("remove 24 again", PacketSwitch.NONE, x.remove(24));
        Expect.same("the next", PacketSwitch.NONE, x.remove(25));
        for (int i = 0; i < 24; i++) {
            // From both ends to the middle.
            int number = i % 2 == 0 ? i / 2 : 23 - i / 2;
            Expect.same("remove " + number, 23 - i, x.remove(number));
            Expect.same("entries", 23 - i, x.look(0, 0));
            Expect.same("remove " + number + " again", PacketSwitch.NONE, x.remove(number));
        }
        Expect.same("a new one", 25, x.insert(0, 1, 0));
        Expect.same("load", PacketSwitch.NONE, Expect.load(x, Texts.STATE + "control{}"));
        Expect.same("a new program has none", PacketSwitch.NONE, x.remove(25));
    }

    private static void fallbacks() {
        Expect.sentence("The default action of a table becomes one of its actions (from 0), with the arguments that are made up: 0");
        PacketSwitch x = Expect.loaded("header h{a 8;}action f(p 9){out=p;}action g(){drop;}action e(p 4,q 4,r 9){out=p+q+r;}"
            + "table t{key h.a exact;actions f,g,e;default f(100);}table u{key h.a exact;actions g,f;default f(200);}"
            + "state s{extract h;goto accept;}control{if(h.a<128){apply t;}else{apply u;}}");
        Expect.goes("the text's", x, 0, "00", 100, "00");
        Expect.goes("the text's", x, 0, "ff", 200, "ff");
        x.argument(0, 511);
        Expect.same("fallback", 0, x.fallback(0, 0));
        Expect.goes("the greatest", x, 0, "00", 511, "00");
        Expect.goes("the other table's stays", x, 0, "ff", 200, "ff");
        Expect.same("nothing made up", 0, x.fallback(0, 2));
        Expect.goes("arguments are 0", x, 0, "00", 0, "00");
        x.argument(0, 15);
        x.argument(1, 15);
        x.argument(2, 300);
        Expect.same("three of them", 0, x.fallback(0, 2));
        Expect.goes("three of them", x, 0, "00", 330, "00");
        Expect.same("none", 0, x.fallback(0, 1));
        Expect.goes("dropped", x, 0, "00", PacketSwitch.DROPPED, "");
        Expect.same("the second table's first action", 0, x.fallback(1, 0));
        Expect.goes("dropped", x, 0, "ff", PacketSwitch.DROPPED, "");
        Expect.same("no entry came of it", 0, x.look(0, 0));
        Expect.same("defaults done", 5, x.look(0, 1));
        x.match(0, 0, 0);
        x.argument(0, TOP);
        Expect.same("too great", PacketSwitch.REFUSED, x.fallback(1, 1));
        Expect.goes("the last one stays", x, 0, "ff", PacketSwitch.DROPPED, "");
    }
}
