import java.util.ArrayList;
import java.util.List;
import java.util.TreeSet;

/** Terms, section 3, THE IMAGE: read back by what slot(), element() and type() tell, it is the same with every POLICY. */
public final class ImageEdgeTest {
    /** The FIELDS' TYPES of each CLASS, then those of the GLOBALS; an ARRAY's with [] behind. */
    private static final String[][] CLASSES = {{"P", "byte", "int"}, {"Z"}, {"L", "long", "P", "P!", "Z"}, {"R", "R", "L", "any", "float"},
        {"C", "P", "L!", "R", "C"}, {"D", "Z", "Z!", "any", "byte"}, {"S", "byte", "byte"}};
    private static final String[] VALUES = {"P", "Z", "L", "R", "S"};
    private static final String[] GLOBALS = {"C", "L", "any[]", "S[]", "L![]", "Z"};
    private static final String TEXT = "value P{byte a;int b;}value Z{}value L{long a;P b;P! c;Z d;}value R{R a;L b;any c;float d;}class C{P a;L! b;R c;C d;}class D{Z a;Z! b;any c;byte d;}value S{byte a;byte b;}"
            + "global C g;global L l;global any[]a;global S[]s;global L![]v;global Z z;"
            + "fun l(int n)L!{return new L(-(n as long),null,new P(n,n*1000),null);}"
            + "fun f(){D lost=new D(null,new Z(),null,7);g=new C(null,l(1),null,null);g.d=g;l=l(2)with b(new P(255,-1))with d(new Z());s=new S[5];s[0]=new S(1,2);s[2]=new S(-1,-2);s[4]=new S(0,0);"
            + "R r=new R(null,l,s,#bf800000);r=new R(r,null,l,#0);r=new R(r with d(#7fc00000),l(3),r,#1);D d=new D(new Z(),new Z(),r,-128);lost.c=d;a=new any[6];a[0]=d;a[1]=r;a[2]=new P(3,4);a[4]=a;a[5]=new Z();"
            + "g=new C(new P(5,6),l(4),r.a,g);v=new L![3](l(5));v[1]=l;z=null;}fun e(){z=new Z();}";

    private final FlatHouse x;
    private final int many;
    private final TreeSet<Integer> asked = new TreeSet<>();
    private final List<Integer> laid = new ArrayList<>();
    private int free;

    private ImageEdgeTest(FlatHouse x) {
        this.x = x;
        many = x.image();
    }

    public static void main(String[] args) {
        FlatHouse x = House.with(TEXT);
        String due = null;
        for (int most = 0; most <= 32; most++) {
            for (int bits = 0; bits <= 7; bits++) {
                x.policy(most, bits, 0);
                House.due("run", x.run(1, 1, 999), 0);
                House.due("thread(0, 0)", x.thread(0, 0), 2);
                String got = new ImageEdgeTest(x).read(most + " " + bits);
                due = due == null ? got : due;
                if (!got.equals(due)) {
                    House.due("with POLICY " + most + " " + bits + " " + got + " where due is " + due, 0, 1);
                }
            }
        }
        // Seven were made, but nothing leads to the first one.
        House.due("objects and arrays in the IMAGE", due.split("#").length - 1, 6);
        numbersAreNoReferences();
        ends();
        House.finish();
    }

    private int number(int at, int bytes) {
        int n = 0;
        for (int i = 0; i < bytes; i++) {
            House.due("byteAt(" + (at + i) + ") is there", x.byteAt(at + i) >= 0, true);
            n = n << 8 | x.byteAt(at + i);
        }
        return n;
    }

    private long wide(int at) {
        return (long) number(at, 4) << 32 | number(at + 4, 4) & 0xffffffffL;
    }

    private static int classOf(String type) {
        for (int c = 0; c < CLASSES.length; c++) {
            if (CLASSES[c][0].equals(type.replace("!", ""))) {
                return c;
            }
        }
        return -1;
    }

    private static boolean isValue(int c) {
        return List.of(VALUES).contains(CLASSES[c][0]);
    }

    private static int next(int at) {
        return (at + 7) / 8 * 8;
    }

    /** All that is in the IMAGE as a text, objects and arrays by their number in it. */
    private String read(String policy) {
        StringBuilder all = new StringBuilder();
        House.due("the first four bytes with " + policy, number(0, 4), 0);
        House.due("the next four", number(4, 4), 0);
        free = 8;
        for (int g = 0; g < GLOBALS.length; g++) {
            free = Math.max(free, 8 + x.slot(-1, g, 0) + x.slot(-1, g, 1));
        }
        all.append("globals{");
        for (int g = 0; g < GLOBALS.length; g++) {
            all.append(slot(GLOBALS[g], 8 + x.slot(-1, g, 0), x.slot(-1, g, 1), x.slot(-1, g, 2), x.slot(-1, g, 3))).append(' ');
        }
        all.append("}");
        for (int round = 0; round < 200 && next(free) < many; round++) {
            int at = next(free);
            zeros(free, at);
            laid.add(at);
            all.append(" #").append(at(at)).append(record(at));
        }
        House.due("the end with " + policy, next(free), many);
        zeros(free, many);
        House.due("all that is asked for is laid with " + policy, asked.equals(new TreeSet<>(laid)), true);
        String text = all.toString();
        for (int i = 0; i < laid.size(); i++) {
            text = text.replace("<" + laid.get(i) + ">", "<" + i + ">");
        }
        return text;
    }

    private static String at(int place) {
        return "<" + place + ">";
    }

    private void zeros(int from, int to) {
        for (int i = from; i < to; i++) {
            House.due("byteAt(" + i + ") that fills up", x.byteAt(i), 0);
        }
    }

    private String record(int at) {
        int kind = number(at, 2);
        int length = number(at + 4, 4);
        House.due("two bytes behind the kind", number(at + 2, 2), 0);
        StringBuilder all = new StringBuilder("{" + kind + ":");
        if (kind >= 256) {
            int code = kind - 256;
            int each = x.element(code, 1);
            String type = code == 4 ? "any" : CLASSES[(code - 5) / 2][0] + (code % 2 == 0 ? "!" : "");
            free = at + 8 + length * each;
            for (int i = 0; i < length; i++) {
                all.append(slot(type, at + 8 + i * each, each, x.element(code, 2), x.element(code, 3))).append(' ');
            }
            return all + "}";
        }
        House.due("the length of what is no array", length, 0);
        free = at + 8 + x.type(kind, 2);
        return all + fields(kind, at + 8) + "}";
    }

    private String fields(int c, int at) {
        StringBuilder all = new StringBuilder();
        for (int f = 1; f < CLASSES[c].length; f++) {
            all.append(slot(CLASSES[c][f], at + x.slot(c, f - 1, 0), x.slot(c, f - 1, 1), x.slot(c, f - 1, 2), x.slot(c, f - 1, 3))).append(' ');
        }
        return all.toString();
    }

    private String slot(String type, int at, int bytes, int how, int mark) {
        if (how == 0) {
            return type.equals("long") ? Long.toString(wide(at)) : type.equals("byte") ? Integer.toString((byte) number(at, 1)) : Integer.toHexString(number(at, 4));
        }
        if (how >= 2) {
            int c = classOf(type);
            if (mark >= 0 && number(at + mark, 1) == 0) {
                zeros(at, at + bytes);
                return "null";
            }
            House.due("the MARK", mark >= 0 ? number(at + mark, 1) : 1, 1);
            return "{" + c + ":" + fields(c, at) + "}";
        }
        int to = number(at, 4);
        if (to == 0) {
            return "null";
        }
        int kind = number(to, 2);
        if (kind >= 256 || !isValue(kind)) {
            asked.add(to);
            return at(to);
        }
        // A value is right behind all that is ahead of it.
        House.due("the place of a value", to, next(free));
        zeros(free, to);
        return record(to);
    }

    /** Numbers that could be taken for what the run made reach nothing. */
    private static void numbersAreNoReferences() {
        FlatHouse x = House.with("class O{int n;}value V{int a;long b;}global int[]i;global long[]l;global byte[]b;global V v;global O o;global int g;"
                + "fun f(){i=new int[50];l=new long[50];b=new byte[50];o=new O(9);any lost=null;int k=0;while k<50{lost=new O(k);i[k]=k;l[k]=k as long;b[k]=k;k=k+1;}"
                + "v=new V(20,21 as long);o.n=22;g=23;k=0;while k<50{lost=new V(k,k as long);k=k+1;}v=new V(230,231 as long);g=232;o.n=233;}");
        House.due("run", x.run(0, 1, 999), 0);
        int objects = 16 + 208 + 408 + 64;
        House.due("image()", x.image(), 8 + 24 + 24 + objects);
        x.policy(32, 7, 0);
        House.due("run", x.run(0, 1, 999), 0);
        House.due("image()", x.image(), 8 + 48 + objects);
    }

    /** "Each begins at the next multiple of 8 (so the IMAGE's end)": for each number of bytes in GLOBALS, objects and arrays. */
    private static void ends() {
        for (int n = 0; n <= 17; n++) {
            FlatHouse x = House.with("global any g;fun f(){g=new byte[" + n + "];}");
            x.run(0, 1, 9);
            House.due("image() of " + n + " bytes", x.image(), 16 + 8 + (n + 7) / 8 * 8);
        }
        for (int n = 0; n <= 6; n++) {
            StringBuilder text = new StringBuilder();
            for (int i = 0; i < n; i++) {
                text.append("global byte b").append(i).append(";");
            }
            FlatHouse x = House.with(text + "fun f(){" + (n > 0 ? "b" + (n - 1) + "=255;" : "") + "}");
            x.run(0, 1, 9);
            House.due("image() of " + n + " GLOBALS", x.image(), n == 0 ? 8 : 16);
            House.due("byteAt", x.byteAt(7 + n), n == 0 ? 0 : 255);
            House.due("byteAt", x.byteAt(8 + n), n == 0 ? -1 : 0);
        }
        for (int n = 0; n <= 4; n++) {
            StringBuilder fields = new StringBuilder();
            StringBuilder es = new StringBuilder();
            for (int i = 0; i < n; i++) {
                fields.append("int i").append(i).append(";");
                es.append(i == 0 ? "" : ",").append("-1");
            }
            FlatHouse x = House.with("class C{" + fields + "}value V{" + fields + "}global any g;global any h;fun f(){g=new C(" + es + ");h=new V(" + es + ");}");
            x.run(0, 1, 9);
            int each = 8 + (4 * n + 7) / 8 * 8;
            House.due("image() of " + n + " FIELDS", x.image(), 16 + 2 * each);
            House.due("the value ahead of the object", x.byteAt(15), 16);
            House.due("its CLASS", x.byteAt(17), 1);
            House.due("the object behind it", x.byteAt(11), 16 + each);
            House.due("its CLASS", x.byteAt(17 + each), 0);
        }
    }
}
