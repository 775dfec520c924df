import java.math.BigInteger;

/** "Terms", sums, tests and what is assigned: their edges, against numbers that have no limit. */
public final class SumEdgesTest {
    private static final long TOP = (1L << 48) - 1;
    private static final long[] NUMBERS = {0, 1, 2, 3, 46, 47, 48, 49, 63, 64, 65, 255, 256, 511, 512, 1L << 31, (1L << 32) - 1,
        1L << 32, (1L << 32) + 1, (1L << 47) - 1, 1L << 47, TOP - 1, TOP};
    private static final BigInteger MODULUS = BigInteger.ONE.shiftLeft(48);
    private static final String PAIR = "header p{a 48;b 48;}header r{v 48;}state s{extract p;goto accept;}";

    public static void main(String[] args) {
        for (String sign : new String[] {"+", "-", "&", "|", "^", "<<", ">>"}) {
            operator(sign);
        }
        for (String sign : new String[] {"==", "!=", "<", "<=", ">", ">="}) {
            relation(sign);
        }
        fromLeftToRight();
        numbersInTheText();
        portAndSize();
        lowestBitsOfFields();
        lowestBitsOfMetas();
        lowestBitsOfOut();
        lowestBitsOfArguments();
        notValid();
        Expect.finish();
    }

    private static String hex(long number) {
        return String.format("%012x", number);
    }

    private static long due(String sign, long left, long right) {
        BigInteger a = BigInteger.valueOf(left);
        BigInteger b = BigInteger.valueOf(right);
        switch (sign) {
            case "+":
                return a.add(b).mod(MODULUS).longValue();
            case "-":
                return a.subtract(b).mod(MODULUS).longValue();
            case "&":
                return a.and(b).longValue();
            case "|":
                return a.or(b).longValue();
            case "^":
                return a.xor(b).longValue();
            case "<<":
                return right >= 48 ? 0 : a.shiftLeft((int) right).mod(MODULUS).longValue();
            default:
                return right >= 48 ? 0 : a.shiftRight((int) right).longValue();
        }
    }

    private static void operator(String sign) {
        Expect.sentence("Sums: all numbers modulo 2^48; << and >> by 48 or more give 0");
        for (long left : NUMBERS) {
            PacketSwitch x = Expect.loaded(PAIR + "control{add r;r.v=p.a" + sign + "p.b;remove p;}");
            for (long right : NUMBERS) {
                Expect.goes(left + sign + right, x, 0, hex(left) + hex(right), 0, hex(due(sign, left, right)));
            }
        }
    }

    private static boolean holds(String sign, long left, long right) {
        switch (sign) {
            case "==":
                return left == right;
            case "!=":
                return left != right;
            case "<":
                return left < right;
            case "<=":
                return left <= right;
            case ">":
                return left > right;
            default:
                return left >= right;
        }
    }

    private static void relation(String sign) {
        Expect.sentence("REL: == != < <= > >=");
        for (long left : NUMBERS) {
            PacketSwitch x = Expect.loaded(PAIR + "control{if(p.a" + sign + "p.b){out=1;}if(!p.a" + sign + "p.b){out=2;}remove p;}");
            for (long right : NUMBERS) {
                Expect.goes(left + sign + right, x, 0, hex(left) + hex(right), holds(sign, left, right) ? 1 : 2, "");
            }
        }
    }

    private static void sum(String sum, long due) {
        PacketSwitch x = Expect.loaded("header r{v 48;}state s{extract r;goto accept;}control{r.v=" + sum + ";}");
        Expect.goes(sum, x, 3, hex(5), 0, hex(due));
    }

    private static void fromLeftToRight() {
        Expect.sentence("SUM: PART { OP PART }, from left to right");
        sum("1+2<<3", 24);
        sum("1<<2+3", 7);
        sum("1|2&2", 2);
        sum("1&2|4", 4);
        sum("9-3-2", 4);
        sum("9-(3-2)", 8);
        sum("1<<3<<2", 32);
        sum("1<<(3<<2)", 4096);
        sum("7^2+1", 6);
        sum("0-1+1", 0);
        sum("0-1>>47", 1);
        sum("281474976710655+1>>1", 0);
        sum("1<<47<<1", 0);
        sum("1<<47<<1>>1", 0);
        sum("1>>1<<1", 0);
        sum("r.v-6", TOP);
        sum("((((((1)+1)+1)+1)+1)+1)", 6);
        sum("1-(1-(1-(1-(1-(1-(1-3))))))", -2 & TOP);
        sum("1" + Texts.times(149, "+1"), 150);
        sum("0" + Texts.times(149, "-1"), -149 & TOP);
    }

    private static void numbersInTheText() {
        Expect.sentence("all numbers modulo 2^48 (those of the text, the greatest too)");
        sum("281474976710655", TOP);
        sum("281474976710655+0", TOP);
        sum("281474976710655+1", 0);
        sum("281474976710655+281474976710655", TOP - 1);
        sum("0-281474976710655", 1);
        sum("1<<281474976710655", 0);
        sum("281474976710655>>281474976710655", 0);
        sum("000000000000000000000007", 7);
    }

    private static void portAndSize() {
        Expect.sentence("in: the port; size: how many bytes the packet had");
        PacketSwitch x = Expect.loaded("header h{a 8;}header r{i 24;s 24;}state s{extract h;goto accept;}"
            + "control{add r;r.i=in;r.s=size;remove h;out=0-1;r.i=in;}");
        for (int port : new int[] {0, 1, 255, 256, 511}) {
            for (int size : new int[] {1, 2, 20}) {
                String due = String.format("%06x%06x", port, size) + "00".repeat(size - 1);
                Expect.goes("port " + port + " size " + size, x, port, "00".repeat(size), 511, due);
            }
        }
        x = Expect.loaded("state s{goto accept;}control{out=size+(in<<1);}");
        Expect.goes("nothing", x, 0, "", 0, "");
        Expect.goes("200 bytes", x, 1, "00".repeat(200), 202, "00".repeat(200));
    }

    private static void lowestBitsOfFields() {
        Expect.sentence("What is assigned keeps the lowest bits that there is room for");
        for (int width = 1; width <= 48; width++) {
            int rest = 8 - width % 8;
            // The bits before and behind the field stay as they are.
            PacketSwitch x = Expect.loaded("header n{v 48;}header h{a 8;f " + width + ";b " + rest + ";}header g{c 8;}"
                + "state s{extract n;extract h;extract g;goto accept;}control{h.f=n.v;n.v=h.f;}");
            String zeros = "a5" + "00".repeat((width + rest) / 8) + "5a";
            for (long value : new long[] {0, 1, 1L << width - 1, 1L << width & TOP, (1L << width) - 1, (1L << width) + 1 & TOP, TOP}) {
                long kept = value & (1L << width) - 1;
                BigInteger field = new BigInteger(zeros, 16).or(BigInteger.valueOf(kept).shiftLeft(rest + 8));
                Expect.goes(width + " bits of " + value, x, 0, hex(value) + zeros, 0, hex(kept) + field.toString(16));
            }
        }
    }

    private static void lowestBitsOfMetas() {
        Expect.sentence("What is assigned keeps the lowest bits that there is room for (a meta)");
        for (int width = 1; width <= 48; width++) {
            PacketSwitch x = Expect.loaded("header n{v 48;}meta k 48;meta m " + width + ";meta l 48;"
                + "state s{extract n;goto accept;}control{m=n.v;n.v=m;out=k+l;}");
            for (long value : new long[] {0, 1, 1L << width - 1, 1L << width & TOP, (1L << width) - 1, TOP}) {
                Expect.goes(width + " bits of " + value, x, 0, hex(value), 0, hex(value & (1L << width) - 1));
            }
        }
    }

    private static void lowestBitsOfOut() {
        Expect.sentence("(out: 9)");
        PacketSwitch x = Expect.loaded("header n{v 48;}state s{extract n;goto accept;}control{out=n.v;n.v=out;}");
        for (long value : new long[] {0, 1, 255, 256, 510, 511, 512, 513, 1023, 1024, 1L << 32, TOP}) {
            Expect.goes("out=" + value, x, 0, hex(value), (int) (value & 511), hex(value & 511));
        }
    }

    private static void lowestBitsOfArguments() {
        Expect.sentence("an action with its ARGUMENTS, the greatest of them too");
        PacketSwitch x = Expect.loaded("header n{v 48;}state s{extract n;goto accept;}action f(p 1,q 9,r 48){n.v=r-q-p;out=q;}"
            + "table t{key n.v exact;actions f;default f(1,511,281474976710655);}control{apply t;}");
        Expect.goes("the default's", x, 0, hex(1), 511, hex(TOP - 512));
        x.match(0, 2, 0);
        x.argument(0, 1);
        x.argument(1, 511);
        x.argument(2, TOP);
        Expect.same("insert", 0, x.insert(0, 0, 0));
        Expect.goes("an entry's", x, 0, hex(2), 511, hex(TOP - 512));
        Expect.same("fallback", 0, x.fallback(0, 0));
        Expect.goes("the fallback's", x, 0, hex(1), 0, hex(0));
    }

    private static void notValid() {
        Expect.sentence("A field of a header that is not valid is 0; assigned to, it stays");
        String heads = "header h{a 8;b 8;}header g{a 8;}state s{extract h;goto accept;}control{";
        Expect.goes("never valid", Expect.loaded(heads + "out=g.a+1;}"), 0, "0506", 1, "0506");
        Expect.goes("assigned to", Expect.loaded(heads + "g.a=9;out=g.a+1;}"), 0, "0506", 1, "0506");
        Expect.goes("then added", Expect.loaded(heads + "g.a=9;add g;out=g.a+1;}"), 0, "0506", 1, "0506 00");
        Expect.goes("removed", Expect.loaded(heads + "remove h;out=h.a+h.b+1;}"), 0, "0506", 1, "");
        Expect.goes("removed and assigned to", Expect.loaded(heads + "remove h;h.b=9;out=h.b+1;add h;}"), 0, "0506", 1, "0000");
        Expect.goes("in a test", Expect.loaded(heads + "remove h;if(h.a==0&&h.b<1){out=3;}}"), 0, "0506", 3, "");
        Expect.goes("in a state", Expect.loaded("header h{a 8;}header g{a 8;}state s{extract h;select g.a{0:accept;}}control{}"),
            0, "05", 0, "05");
        Expect.goes("in a sum that is assigned to itself", Expect.loaded(heads + "g.a=g.a+1;g.a=g.a+1;out=g.a;}"), 0, "0506", 0, "0506");
    }
}
