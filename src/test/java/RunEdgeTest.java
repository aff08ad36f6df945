/** Terms, section 2: numbers that wrap, FAILURES at their limits and on both sides of them, and their order. */
public final class RunEdgeTest {
    private static final String KINDS = "class C{int n;C c;}value V{int x;byte y;}value R{R up;long w;}value A{any a;any b;}value Z{}"
            + "value N{V! v;R r;}class B{byte b;V! v;}global int gi;global long gl;global byte gb;global any ga;global C gc;global V gv;";

    public static void main(String[] args) {
        intsWrap();
        longsWrap();
        divisors();
        bytes();
        truth();
        indexes();
        lengths();
        things();
        elements();
        values();
        whatFailsIsNotCounted();
        weights();
        weightsOfAll();
        frames();
        threads();
        anyInt();
        comesToNeverNull();
        orderOfOneAct();
        triesThatAreOpen();
        endsWithoutReturn();
        hashes();
        House.finish();
    }

    private static String loop(int times, String body) {
        return "int i=0;while i<" + times + "{" + body + "i=i+1;}";
    }

    /** That these STATEMENTS FAIL so, seen by a try around them, and nothing else does. */
    private static FlatHouse caught(String ahead, String statements, int... failures) {
        long[] wanted = new long[failures.length];
        for (int i = 0; i < failures.length; i++) {
            wanted[i] = failures[i];
        }
        return House.puts(KINDS + ahead, statements, wanted);
    }

    private static String tried(String statements) {
        return "try{" + statements + "}catch e{out e;}";
    }

    private static void made(FlatHouse x, int things, int elements, int values) {
        House.due("result(4)", x.result(4), things);
        House.due("result(5)", x.result(5), elements);
        House.due("result(6)", x.result(6), values);
    }

    /** "int, long wrap; / goes towards 0, % is its rest". */
    private static void intsWrap() {
        int[] edges = {Integer.MIN_VALUE, Integer.MIN_VALUE + 1, -65536, -46341, -3, -2, -1, 0, 1, 2, 3, 46341, 65536, Integer.MAX_VALUE - 1, Integer.MAX_VALUE};
        for (int a : edges) {
            for (int b : edges) {
                House.puts("fun f(){int a=" + e(a) + ";int b=" + e(b) + ";out a+b;out a-b;out a*b;out a<b;out a==b;out-a;out not a;"
                        + (b == 0 ? "out 0;out 0;}" : "out a/b;out a%b;}"),
                        a + b, a - b, a * b, a < b ? 1 : 0, a == b ? 1 : 0, -a, a == 0 ? 1 : 0, b == 0 ? 0 : a / b, b == 0 ? 0 : a % b);
            }
        }
    }

    private static String e(int n) {
        return n == Integer.MIN_VALUE ? "-2147483647-1" : n < 0 ? "-" + -n : Integer.toString(n);
    }

    private static void longsWrap() {
        long[] edges = {Long.MIN_VALUE, Long.MIN_VALUE + 1, -4294967296L, -3, -1, 0, 1, 2, 2147483648L, 4294967295L, Long.MAX_VALUE - 1, Long.MAX_VALUE};
        for (long a : edges) {
            for (long b : edges) {
                House.puts("fun f(){long m=65536 as long;long a=" + e(a) + ";long b=" + e(b) + ";out a+b;out a-b;out a*b;out a<b;out a==b;out-a;out a as int;out a as byte;"
                        + (b == 0 ? "out 0;out 0;}" : "out a/b;out a%b;}"),
                        a + b, a - b, a * b, a < b ? 1 : 0, a == b ? 1 : 0, -a, (int) a, (byte) a, b == 0 ? 0 : a / b, b == 0 ? 0 : a % b);
            }
        }
    }

    /** A long as an E, of its two halves. */
    private static String e(long n) {
        long low = n & 0xffffffffL;
        return "((" + e((int) (n >> 32)) + ")as long)*m*m+(" + (low >>> 16) + " as long)*m+(" + (low & 65535) + " as long)";
    }

    /** FAILURE "2 / or % of int, long by 0": not by -1 and 1, not of floats. */
    private static void divisors() {
        for (String op : new String[] {"/", "%"}) {
            caught("", "int a=7;" + tried("out a" + op + "gi;") + tried("out 0" + op + "0;") + "gi=1;" + tried("gi=a" + op + "gi;") + "gi=0-1;" + tried("gi=a" + op + "gi;"), 2, 2);
            caught("", "long a=7 as long;" + tried("out a" + op + "gl;") + "gl=1 as long;" + tried("gl=a" + op + "gl;") + "gl=-(1 as long);" + tried("gl=a" + op + "gl;"), 2);
            caught("", "byte b=256;" + tried("out 7" + op + "b;") + "b=257;" + tried("gi=7" + op + "b;"), 2);
            caught("", "int a=65536;" + tried("out 7" + op + "(a*a);"), 2);
            // A long whose lower half is 0 is none.
            House.puts(KINDS, "long a=65536 as long;out 7 as long" + op + "(a*a);", op.equals("/") ? 0 : 7);
        }
        House.puts("", "float z=#0;out #3f800000/z;out -#3f800000/z;out z/z;out #3f800000/#80000000;", 0x7f800000, 0xff800000, 0x7fc00000, 0xff800000);
    }

    /** "what comes into a byte: its lowest 8 bits, with sign", wherever it comes to. */
    private static void bytes() {
        int[] edges = {-129, -128, -127, -1, 0, 1, 126, 127, 128, 129, 255, 256, 257, 383, 384, -32768, -257, -256, 2147483647, -2147483647};
        String ahead = "class P{byte b;int o;}value Q{byte b;int o;}global byte gb;fun g(byte b){out b;}fun h(int n)byte{return n;}";
        for (int n : edges) {
            long b = (byte) n;
            House.puts(ahead, "int n=" + e(n) + ";byte l=n;out l;l=0;l=n;out l;gb=n;out gb;P p=new P(n,n);out p.b;p.b=0;p.b=n;out p.b;out p.o;"
                    + "Q q=new Q(n,n);out q.b;q=new Q(0,0)with b(n);out q.b;", b, b, b, b, b, n, b, b);
            House.puts(ahead, "int n=" + e(n) + ";byte[]a=new byte[2];a[1]=n;out a[1];out a[0];g(n);out h(n);out n as byte;out n as byte+1;spawn g(n);",
                    b, 0, b, b, b, b + 1, b);
        }
    }

    /** "not is 1 of 0, else 0"; if and while go by whether it is 0. */
    private static void truth() {
        int[] edges = {Integer.MIN_VALUE, -1, 0, 1, 2, 256, 65536, Integer.MAX_VALUE};
        for (int n : edges) {
            long yes = n == 0 ? 0 : 1;
            House.puts("", "int n=" + e(n) + ";out not n;out not not n;if n{out 1;}else{out 0;}int k=0;while n{n=0;k=1;}out k;", 1 - yes, yes, yes, yes);
        }
    }

    /** FAILURE "3 an index that the array has not". */
    private static void indexes() {
        for (int length : new int[] {0, 1, 2, 600}) {
            for (String kind : new String[] {"int", "byte", "long", "any", "V", "Z"}) {
                String make = kind + "[]a=new " + kind + "[" + length + "];";
                String set = kind.equals("int") || kind.equals("byte") ? "1" : kind.equals("long") ? "gl" : "null";
                int[] wrong = {-1, length, length + 1, Integer.MAX_VALUE, Integer.MIN_VALUE, length - 1 - 65536};
                for (int i : wrong) {
                    caught("", make + "int i=" + e(i) + ";" + tried("a[i]=" + set + ";") + tried("out a[i]==a[i];"), 3, 3);
                }
                if (length > 0) {
                    caught("", make + "int i=" + (length - 1) + ";" + tried("a[i]=" + set + ";gi=a[i]==a[i];") + tried("a[0]=" + set + ";gi=a[0]==a[0];"));
                }
            }
        }
        caught("", "V![]a=new V![0](new V(1,1));" + tried("a[0]=new V(1,1);") + tried("out a[0].x;") + "out len a;", 3, 3, 0);
    }

    /** FAILURE "3 .. a length below 0". */
    private static void lengths() {
        caught("", tried("ga=new int[-1];") + tried("ga=new int[-2147483647-1];") + tried("ga=new V![-1](new V(1,1));") + tried("ga=new V[0-1];"), 3, 3, 3, 3);
        FlatHouse x = caught("", "out len new int[0];out len new V[0];out len new V![0](new V(1,1));out len new any[1];", 0, 0, 0, 1);
        made(x, 4, 1, 1);
    }

    /** FAILURE "6 more than 200 objects and arrays together". */
    private static void things() {
        for (int objects : new int[] {0, 1, 100, 199, 200}) {
            for (int arrays = Math.max(0, 199 - objects); arrays <= 200 - objects; arrays++) {
                String fill = "int i=0;while i<" + objects + "{ga=new C(1,null);i=i+1;}i=0;while i<" + arrays + "{ga=new int[0];i=i+1;}";
                made(House.puts(KINDS, fill, new long[0]), objects + arrays, 0, 0);
            }
            String full = "int i=0;while i<" + objects + "{ga=new C(1,null);i=i+1;}i=0;while i<" + (200 - objects) + "{ga=new V[1];i=i+1;}";
            FlatHouse x = caught("", full + tried("ga=new C(1,null);") + tried("ga=new int[0];") + tried("ga=new V![0](new V(1,1));") + tried("ga=new B(1,new V(1,1));") + "gv=new V(1,1);", 6, 6, 6, 6);
            made(x, 200, 200 - objects, 3);
        }
    }

    /** "600 elements of all arrays". */
    private static void elements() {
        for (int first : new int[] {0, 1, 300, 599, 600}) {
            int rest = 600 - first;
            made(caught("", "ga=new byte[" + first + "];ga=new V[" + rest + "];"), 2, 600, 0);
            FlatHouse x = caught("", "ga=new byte[" + first + "];" + tried("ga=new long[" + (rest + 1) + "];") + "ga=new V![" + rest + "](new V(1,1));" + tried("ga=new any[1];") + "ga=new any[0];", 6, 6);
            made(x, 3, 600, 1);
        }
        made(caught("", tried("ga=new int[601];") + tried("ga=new int[2147483647];") + "ga=new int[599];" + tried("ga=new int[2];") + tried("ga=new int[2147483647];") + "ga=new int[1];", 6, 6, 6, 6), 2, 600, 0);
        // Objects' FIELDS are no elements.
        made(House.puts(KINDS, "ga=new int[600];" + loop(199, "ga=new C(1,null);"), new long[0]), 200, 600, 0);
    }

    /** "1,000 values by new and with". */
    private static void values() {
        for (int n = 999; n <= 1000; n++) {
            made(House.puts(KINDS, loop(n, "ga=new V(i,i);"), new long[0]), 0, 0, n);
            made(House.puts(KINDS, "V v=new V(1,1);" + loop(n - 1, "v=v with x(i);"), new long[0]), 0, 0, n);
            made(House.puts(KINDS, loop(n, "ga=new Z();"), new long[0]), 0, 0, n);
        }
        for (int news = 1; news <= 1000; news += 333) {
            String full = "V v=null;int i=0;while i<" + news + "{v=new V(i,i);i=i+1;}while i<1000{v=v with y(i);i=i+1;}";
            FlatHouse x = caught("", full + tried("v=new V(1,1);") + tried("v=v with x(1);") + tried("ga=new Z();") + "ga=new V[3];ga=new V![3](v);gc=new C(1,null);out v.x;", 6, 6, 6, news - 1);
            made(x, 3, 6, 1000);
        }
    }

    /** "(what fails is not counted)", be it by this FAILURE or by another. */
    private static void whatFailsIsNotCounted() {
        FlatHouse x = caught("", "V n=null;R r=null;" + loop(40, "r=new R(r,gl);") + tried("ga=new N(n,null);") + tried("ga=new R(r,gl);") + tried("ga=r with up(r);") + tried("ga=n with x(1);")
                + tried("ga=new B(1,n);") + tried("ga=new V![5](n);") + tried("ga=new int[-5];") + tried("ga=new C(1/0,null);") + tried("ga=new V(1/gi,1);") + tried("ga=new int[gi/gi];"),
                1, 7, 7, 1, 1, 1, 3, 2, 2, 2);
        made(x, 0, 0, 40);
        // So there is room for as many as ever behind it.
        x = caught("", "V n=null;" + loop(150, "try{ga=new B(1,n);}catch e{}") + "i=0;while i<200{ga=new C(i,null);i=i+1;}" + tried("ga=new C(1,null);"), 6);
        made(x, 200, 0, 0);
        x = caught("", loop(150, "try{ga=new int[601];}catch e{}") + "ga=new int[600];");
        made(x, 1, 600, 0);
    }

    /** "WEIGHT of a value: 1 and that of all values in its FIELDS"; FAILURE "7 .. of a WEIGHT above 40". */
    private static void weights() {
        for (int n = 39; n <= 40; n++) {
            made(House.puts(KINDS, "R r=null;" + loop(n, "r=new R(r,gl);") + "out r==r;", 1), 0, 0, n);
        }
        made(caught("", "R r=null;" + loop(40, "r=new R(r,gl);") + tried("r=new R(r,gl);") + "out r.up==null;r=new R(r.up,gl);", 7, 0), 0, 0, 41);
        made(caught("", "R r=null;" + loop(39, "r=new R(r,gl);") + "R q=new R(null,gl);q=q with up(r);" + tried("q=q with up(q);") + "q=q with w(gl);q=q with up(null);q=new R(q,gl);", 7), 0, 0, 39 + 5);
        // A FIELD that is given another value no longer counts with the old one.
        caught("", "R r=null;" + loop(40, "r=new R(r,gl);") + tried("r=r with up(r.up);r=r with w(gl);") + tried("r=r with up(r);"), 7);
    }

    private static void weightsOfAll() {
        // Both FIELDS count: 1 + 20 + 19 is 40, 1 + 20 + 20 one too many.
        String ahead = "fun mk(int n)any{A a=null;while 0<n{a=new A(a,null);n=n-1;}return a;}";
        caught(ahead, tried("ga=new A(mk(20),mk(19));") + tried("ga=new A(mk(19),mk(20));") + tried("ga=new A(mk(39),null);") + tried("ga=new A(null,mk(39));"));
        caught(ahead, tried("ga=new A(mk(20),mk(20));") + tried("ga=new A(mk(40),null);") + tried("ga=new A(null,mk(40));") + tried("ga=(mk(20)as A)with b(mk(21));"), 7, 7, 7, 7);
        // The same value in two FIELDS counts twice.
        caught(ahead, "any a=mk(19);" + tried("ga=new A(a,a);") + "a=mk(20);" + tried("ga=new A(a,a);"), 7);
        // What is in objects and arrays is not in the value.
        caught(ahead, "any[]a=new any[1];a[0]=mk(40);" + tried("ga=new A(a,new B(1,new V(1,1)));ga=new A(ga,a);"));
        // Objects and arrays have no WEIGHT: they hold any value.
        caught(ahead + "fun k(any a){ga=a;}", "V![]v=new V![3](new V(1,1));any[]a=new any[2];a[0]=mk(40);a[1]=a;k(a);" + tried("gc=new C(1,null);"));
        // Numbers weigh nothing, whatever they are.
        caught("", "R r=null;" + loop(40, "r=new R(r,gl);") + "i=-5;while i<260{V v=new V(i,i);ga=new R(null,i as long);i=i+1;}");
        caught("", "N n=new N(new V(1,1),null);R r=null;" + loop(38, "r=new R(r,gl);") + tried("n=n with r(r);") + tried("n=n with r(new R(r,gl));"), 7);
    }

    /** FAILURE "8 a CALL with 30 frames of its thread". */
    private static void frames() {
        String ahead = "fun f(int n)int{if n<1{return 0;}return 1+f(n-1);}";
        for (int n = 27; n <= 28; n++) {
            FlatHouse x = House.puts(KINDS + ahead, "out f(" + n + ");", n);
            House.due("result(8)", x.result(8), n + 2);
            House.due("result(7)", x.result(7), 2 * (n + 1));
        }
        FlatHouse x = House.fails(KINDS + ahead, "out f(29);", 8);
        House.due("result(8)", x.result(8), 30);
        House.due("result(7)", x.result(7), 2 * 29);
        x = caught(ahead, tried("out f(29);") + tried("out f(28);"), 8, 28);
        House.due("result(8)", x.result(8), 30);
        // A thread of its own has frames of its own.
        x = House.with(KINDS + ahead + "fun t(){gi=gi+f(28);}fun main(){spawn t();spawn t();gi=gi+f(28);}");
        House.due("run", House.go(x, 3, 4000), 0);
        for (int t = 0; t < 3; t++) {
            House.due("thread(" + t + ", 0)", x.thread(t, 0), 2);
        }
        House.due("result(8)", x.result(8), 30);
        x = House.with(KINDS + ahead + "fun t(){gi=gi+f(29);}fun main(){spawn t();gi=gi+f(28);}");
        House.due("run", House.go(x, 3, 4000), 0);
        House.due("thread(0, 1)", x.thread(0, 1), 0);
        House.due("thread(1, 1)", x.thread(1, 1), 8);
    }

    /** "a spawn with 6 threads made (THREAD 0, too)", over or not. */
    private static void threads() {
        for (int n = 0; n <= 5; n++) {
            FlatHouse x = House.puts(KINDS + "fun t(){gi=gi+1;}", "spawn t();".repeat(n) + loop(99, "") + "out gi;", n);
            House.due("result(2)", x.result(2), n + 1);
            House.due("thread(n, 0)", x.thread(n, 0), 2);
            House.due("thread(n + 1, 0)", x.thread(n + 1, 0), -1);
        }
        FlatHouse x = House.fails(KINDS + "fun t(){gi=gi+1;}", "spawn t();".repeat(6), 8);
        House.due("result(2)", x.result(2), 6);
        x = caught("fun t(){gi=gi+1;}", "spawn t();".repeat(5) + loop(99, "") + "out gi;" + tried("spawn t();") + tried("spawn t();") + "i=0;while i<99{i=i+1;}" + "out gi;", 5, 8, 8, 5);
        House.due("result(2)", x.result(2), 6);
        // A thread that another one made counts as well.
        x = House.with(KINDS + "fun t(int n){if n<9{spawn t(n+1);}}fun main(){spawn t(1);}");
        House.due("run", House.go(x, 5, 4000), 0);
        House.due("result(2)", x.result(2), 6);
        for (int t = 0; t < 6; t++) {
            House.due("thread(" + t + ", 1)", x.thread(t, 1), t == 5 ? 8 : 0);
        }
    }

    /** "any int by fail". */
    private static void anyInt() {
        for (int n : new int[] {Integer.MIN_VALUE, -1, 0, 1, 8, 9, 255, 256, Integer.MAX_VALUE}) {
            House.fails(KINDS, "fail " + e(n) + ";", n);
            House.puts(KINDS, "try{fail " + e(n) + ";}catch e{out e;}", n);
        }
    }

    /** FAILURE 1 of "what comes to a ! (as it FITS, or by as)": null does, a value does not. */
    private static void comesToNeverNull() {
        String ahead = "value V{int x;byte y;}class P{V! v;}value Q{V! v;}global any ga;fun g(V! v){}fun h(V v)V!{return v;}";
        String[] acts = {"V! w=v;", "V! w=new V(1,1);w=v;", "ga=new P(v);", "P p=new P(new V(1,1));p.v=v;", "ga=new Q(v);", "ga=new Q(new V(1,1))with v(v);",
            "V![]a=new V![1](v);", "V![]a=new V![1](new V(1,1));a[0]=v;", "g(v);", "spawn g(v);", "ga=h(v);", "h(v);", "ga=v as V!;"};
        for (String act : acts) {
            House.fails(ahead, "V v=null;" + act, 1);
            House.puts(ahead, "V v=null;" + tried(act), 1);
            House.puts(ahead, "V v=new V(0,0);" + act, new long[0]);
        }
        // Where no ! is, null comes as well as any.
        House.puts(KINDS + "fun k(V v){}fun l(V v)V{return v;}", "V v=null;V w=v;w=v;ga=v;ga=v as V;V[]a=new V[1];a[0]=v;k(v);ga=l(v);out v==null;out hash v;out v is V;", 1, 0, 0);
    }

    /** "Of one act the Es first, null, index, what comes to a ! in order of FIELDS, then 7, 6". */
    private static void orderOfOneAct() {
        String zero = "1/gi";
        // The Es, ahead of null.
        caught("", "int[]a=null;V v=null;" + tried("out a[" + zero + "];") + tried("a[" + zero + "]=1;") + tried("a[0]=" + zero + ";") + tried("gc.n=" + zero + ";") + tried("ga=v with x(" + zero + ");"), 2, 2, 2, 2, 2);
        // null, ahead of the index, and of what comes to a !.
        caught("", "V![]a=null;V v=null;" + tried("ga=a[-1];") + tried("a[-1]=v;") + tried("a[0]=v;"), 1, 1, 1);
        // The index, ahead of what comes to a !.
        caught("", "V![]a=new V![1](new V(1,1));V v=null;" + tried("a[1]=v;") + tried("a[-1]=v;") + tried("a[0]=v;") + tried("ga=new V![-1](v);") + tried("ga=new V![0](v);"), 3, 3, 1, 3, 1);
        // The Es, ahead of what comes to a !.
        caught("fun g(V! v,int n){}", "V v=null;" + tried("g(v," + zero + ");") + tried("g(v,1);") + tried("ga=new B(" + zero + ",v);") + tried("ga=new V![" + zero + "](v);") + tried("spawn g(v," + zero + ");"), 2, 1, 2, 2, 2);
        // What comes to a !, ahead of 7; 7 ahead of 6.
        String heavy = "R r=null;" + loop(40, "r=new R(r,gl);");
        caught("", "V v=null;" + heavy + tried("ga=new N(v,r);") + tried("ga=new N(new V(1,1),r);"), 1, 7);
        caught("", "V v=new V(1,1);V n=null;" + heavy + "i=41;while i<1000{v=v with x(1);i=i+1;}" + tried("ga=new N(n,r);") + tried("ga=new N(v,r);") + tried("ga=new N(v,null);") + tried("ga=r with up(r);") + tried("ga=r with w(gl);"), 1, 7, 6, 7, 6);
        // An index (a length below 0), ahead of 6; what comes to a ! as well.
        caught("", "V v=null;" + loop(200, "ga=new C(1,null);") + tried("ga=new int[-1];") + tried("ga=new V![-1](v);") + tried("ga=new V![1](v);") + tried("ga=new B(1,v);") + tried("ga=new V![1](new V(1,1));"), 3, 3, 1, 1, 6);
        caught("", "V v=null;" + tried("ga=new V![601](v);") + tried("ga=new V![601](new V(1,1));"), 1, 6);
        // lock: null, then a value.
        caught("", "any a=null;" + tried("lock a{}") + "a=new Z();" + tried("lock a{}") + "a=new Z[0];" + tried("lock a{out 9;}"), 1, 4, 9);
        // as: null is of all, but where a ! is.
        caught("", "any a=null;" + tried("ga=a as C;ga=a as V;ga=a as int[];ga=a as any;") + tried("ga=a as V!;") + "a=new Z();" + tried("ga=a as V!;") + tried("ga=a as Z!;"), 1, 5);
    }

    /** "the innermost try whose first BLOCK is open in its thread". */
    private static void triesThatAreOpen() {
        caught("", "try{try{fail 1;}catch e{out e;fail 2;}out 99;}catch e{out e;}", 1, 2);
        caught("", "try{try{}catch e{out 99;}fail 3;}catch e{out e;}", 3);
        caught("fun f(){try{fail 1;}catch e{out e;}fail 2;}", tried("f();out 99;"), 1, 2);
        caught("fun f(){try{return;}catch e{out 99;}}", tried("f();fail 4;"), 4);
        caught("fun f(){fail 5;}", "try{" + tried("f();") + "out 6;}catch e{out 99;}", 5, 6);
        // One that is open in another thread does not matter.
        FlatHouse x = House.with(KINDS + "fun t(){fail 7;}fun main(){try{spawn t();" + loop(30, "") + "}catch e{out e;}}");
        House.due("run", House.go(x, 1, 999), 0);
        House.due("result(3)", x.result(3), 0);
        House.due("thread(0, 0)", x.thread(0, 0), 2);
        House.due("thread(1, 0)", x.thread(1, 0), 3);
        House.due("thread(1, 1)", x.thread(1, 1), 7);
        // Nineteen in one another, each leaves to the next.
        StringBuilder deep = new StringBuilder("fail 0;");
        long[] wanted = new long[17];
        for (int i = 0; i < 17; i++) {
            deep.insert(0, "try{").append("}catch e{out e;fail e+1;}");
            wanted[i] = i;
        }
        House.puts(KINDS, "try{" + deep + "}catch e{}", wanted);
    }

    /** "A FUN that ends without return gives 0, null; with a RESULT with ! that is FAILURE 1." */
    private static void endsWithoutReturn() {
        String[] types = {"byte", "int", "long", "float"};
        for (String t : types) {
            House.puts(KINDS + "fun f()" + t + "{}fun g()" + t + "{gi=1;}fun h()" + t + "{if gi{}else{return g();}}", "out f();out g();out h();", 0, 0, 0);
        }
        for (String t : new String[] {"any", "C", "V", "int[]", "V![]"}) {
            House.puts(KINDS + "fun f()" + t + "{}fun g()" + t + "{gi=1;}", "out f()==null;out g()==null;f();g();", 1, 1);
        }
        caught("fun f()V!{}fun g()V!{gi=1;}fun h(int n)V!{if n{return new V(n,n);}}", tried("f();") + tried("g();") + tried("ga=f();") + tried("h(0);") + "out h(5).x;" + tried("out 1+h(0).x;"), 1, 1, 1, 1, 5, 1);
        // What is in its LOCALS is not what it gives.
        House.puts("fun f()int{int a=1;int b=2;int c=3;int d=4;int e=5;int f=6;int g=7;int h=8;}fun g(int a)byte{a=9;}", "out f();out f()+1;out g(5);", 0, 1, 0);
        // The try of the FUN itself is no longer open at its end.
        caught("fun f()V!{try{gi=1;}catch e{out 99;}}", tried("f();"), 1);
    }

    /** "hash: of null 0; of objects and arrays 1, 2, .. as they are first asked of in the run". */
    private static void hashes() {
        FlatHouse x = House.puts(KINDS, "out hash null;out hash gc;C[]a=new C[199];" + loop(199, "a[i]=new C(i,null);")
                + "i=198;while 0-1<i{gi=hash a[i];i=i-1;}out gi;out hash a[198];out hash a[0];out hash a;out hash null;out hash a;", 0, 0, 199, 1, 199, 200, 0, 200);
        House.due("result(9)", x.result(9), 200);
        x = House.puts(KINDS, "C a=new C(1,null);A v=new A(a,null);C b=new C(1,null);out hash b;out hash v;out hash a;out hash new A(null,b);", 1, 31 * (31 * 10 + 2), 2, 31 * (31 * 10) + 1);
        House.due("result(9)", x.result(9), 2);
        x = House.puts(KINDS, "out hash new Z();out hash new V(0,0);out hash new R(null,gl);", 4 + 7, 31 * 31 * 8, 31 * 31 * 9);
        House.due("result(9)", x.result(9), 0);
        long[] longs = {0, 1, -1, 4294967296L, 2147483648L, Long.MIN_VALUE, Long.MAX_VALUE};
        for (long n : longs) {
            House.puts(KINDS, "long m=65536 as long;out hash new R(null," + e(n) + ");", 31 * 31 * 9 + (int) (n ^ n >>> 32));
        }
    }
}
