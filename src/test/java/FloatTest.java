import java.util.Random;

/** Promises 12 and 14: floats reckon as Java's do, a result that is no number being #7fc00000. */
public final class FloatTest {
    private static final int[] EDGES = {
        0, 0x80000000, 1, 0x80000001, 2, 0x007fffff, 0x807fffff, 0x00800000, 0x80800000, 0x00800001, 0x00ffffff,
        0x3f800000, 0xbf800000, 0x3f7fffff, 0x3f800001, 0x3f000000, 0x40000000, 0x40400000, 0x33800000, 0x34000000,
        0x4b000000, 0x4b7fffff, 0x4b800000, 0xcb800000, 0x4effffff, 0x4f000000, 0xcf000000, 0x4f000001, 0x5effffff,
        0x5f000000, 0xdf000000, 0xdf000001, 0x7f7fffff, 0xff7fffff, 0x7f000000, 0x7f800000, 0xff800000, 0x7fc00000,
        0x7f800001, 0xffc12345, 0x43000000, 0xc3000000, 0x43008000, 0x3eaaaaab, 0x1f800000, 0x20000000,
    };
    private static final int PAIRS = 8;

    private static final StringBuilder text = new StringBuilder();
    private static final long[] wanted = new long[100];
    private static int many;

    public static void main(String[] args) {
        Random random = new Random(20261116);
        for (int a : EDGES) {
            for (int b : EDGES) {
                pair(a, b);
            }
        }
        for (int i = 0; i < 6000; i++) {
            int a = random.nextInt();
            pair(a, random.nextInt());
            pair(a, a + random.nextInt(9) - 4);
            pair(a, (a ^ random.nextInt() & 0x80ffffff) + (random.nextInt(53) - 26 << 23));
            pair(a & 0x81ffffff, random.nextInt() & 0x81ffffff);
            wholes(random.nextLong() >> random.nextInt(64));
        }
        runThem();
        House.finish();
    }

    private static int bits(float f) {
        return Float.isNaN(f) ? 0x7fc00000 : Float.floatToRawIntBits(f);
    }

    private static String bitsText(int a) {
        return "#" + Integer.toHexString(a);
    }

    private static void put(String e, long due) {
        text.append("out ").append(e).append(";");
        wanted[many] = due;
        many++;
    }

    private static void pair(int a, int b) {
        float x = Float.intBitsToFloat(a);
        float y = Float.intBitsToFloat(b);
        text.append("a=").append(bitsText(a)).append(";b=").append(bitsText(b)).append(";");
        put("a+b", bits(x + y));
        put("a-b", bits(x - y));
        put("a*b", bits(x * y));
        put("a/b", bits(x / y));
        put("a<b", x < y ? 1 : 0);
        put("a==b", x == y ? 1 : 0);
        put("-a", bits(-x));
        put("a as int", (int) x);
        put("a as long", (long) x);
        put("a as byte", (byte) x);
        put("a as float", a);
        flush();
    }

    private static void wholes(long v) {
        int high = (int) (v >>> 32);
        long low = v & 0xffffffffL;
        text.append("l=((").append(asE(high)).append(")as long)*m*m+(").append(low >>> 16).append(" as long)*m2+(")
                .append(low & 0xffff).append(" as long);");
        put("l", v);
        put("l as float", bits(v));
        put("(l as int)as float", bits((int) v));
        put("l as byte", (byte) v);
        flush();
    }

    /** An E for an int: that of the least one is no NUMBER with - ahead. */
    private static String asE(int n) {
        return n == Integer.MIN_VALUE ? "-2147483647-1" : n < 0 ? "-" + -n : Integer.toString(n);
    }

    private static void flush() {
        if (many > 11 * (PAIRS - 1) || text.length() > 2500) {
            runThem();
        }
    }

    private static void runThem() {
        FlatHouse x = House.with("fun f(){float a=#0;float b=#0;long l=0 as long;long m=65536 as long;long m2=m;" + text + "}");
        House.due("run", x.run(0, 0, 4000), 0);
        House.due("result(3)", x.result(3), many);
        for (int i = 0; i < many; i++) {
            if (x.output(i) != wanted[i]) {
                House.due("output(" + i + ") of " + text, x.output(i), wanted[i]);
            }
        }
        text.setLength(0);
        many = 0;
    }
}
