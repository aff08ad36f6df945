/** Promises 1 to 17: each argument at its first and last good one, one beyond, and far off; each call in each state. */
public final class CallEdgeTest {
    private static final int[] FAR = {Integer.MIN_VALUE, Integer.MIN_VALUE + 1, -1000000, -101, -100, -2, 100, 101, 255, 256, 65536, 1000000, Integer.MAX_VALUE - 1, Integer.MAX_VALUE};
    private static final String TEXT = "class A{int x;any y;}value V{byte b;int i;}value Z{}global int g;global V v;global V![]a;"
            + "fun f(){g=5;v=new V(1,2);a=new V![3](v);out g;out hash a;}fun p(int n)V{}fun q()int[]{out 1;while 1{}}fun s(){A a=new A(1,null);lock a{}}";

    public static void main(String[] args) {
        feeding();
        ending();
        programs();
        faults();
        counts();
        policies();
        types();
        slots();
        elements();
        funs();
        wrongRuns();
        wrongRunsChangeNothing();
        results();
        outputs();
        threads();
        images();
        bytesAt();
        allCalls();
        House.finish();
    }

    private static FlatHouse ran() {
        FlatHouse x = House.with(TEXT);
        House.due("run", x.run(0, 1, 100), 0);
        return x;
    }

    /** "false, and nothing comes, if it would have more than 3000". */
    private static void feeding() {
        for (int cut = 0; cut <= 21; cut++) {
            FlatHouse x = new FlatHouse();
            House.tape(x, " ".repeat(3000));
            House.due("end", x.end(3000 - cut), true);
            boolean room = cut >= 20;
            House.due("feed with " + (3000 - cut), x.feed(0x66756e20, 0x6628297b, 0x7d202020, 0x20202020, 0x20202020), room);
            House.due("as many bytes as due", x.end(room ? 3020 - cut : 3000 - cut), true);
            House.due("and no more", x.end((room ? 3020 - cut : 3000 - cut) + 1), false);
            House.due("program()", x.program(), room ? 0 : 1);
            House.due("fault(1)", x.fault(1), room ? -1 : 3000 - cut);
        }
        FlatHouse x = new FlatHouse();
        for (int i = 0; i < 150; i++) {
            House.due("feed " + i, x.feed(0, 0, 0, 0, 0), true);
        }
        for (int i = 0; i < 3; i++) {
            House.due("feed of a full TAPE", x.feed(1, 2, 3, 4, 5), false);
        }
        // Each byte in its order: the one that is no blank is told at its place.
        for (int at = 0; at < 20; at++) {
            x = new FlatHouse();
            int[] n = new int[5];
            for (int i = 0; i < 20; i++) {
                n[i / 4] = n[i / 4] << 8 | (i == at ? 0x87 : 0x20);
            }
            House.due("feed", x.feed(n[0], n[1], n[2], n[3], n[4]), true);
            House.due("program()", x.program(), 1);
            House.due("fault(1)", x.fault(1), at);
        }
    }

    /** "false, and it stays, if it has not so many, or n is below 0". */
    private static void ending() {
        for (int many : new int[] {0, 20, 40, 3000}) {
            FlatHouse x = new FlatHouse();
            House.tape(x, " ".repeat(many));
            for (int n : FAR) {
                if (n < 0 || n > many) {
                    House.due("end(" + n + ") of " + many, x.end(n), false);
                }
            }
            House.due("end(-1)", x.end(-1), false);
            House.due("end one above", x.end(many + 1), false);
            House.due("end at it", x.end(many), true);
            if (many > 0) {
                House.due("end one below", x.end(many - 1), true);
                House.due("end at what it was", x.end(many), false);
            }
            House.due("end(0)", x.end(0), true);
            House.due("end(0) again", x.end(0), true);
            House.due("end(1)", x.end(1), false);
        }
        // What a refused call left is read as it was.
        FlatHouse x = new FlatHouse();
        House.tape(x, "fun f(){out 7;}");
        x.end(16);
        x.end(-1);
        x.end(Integer.MIN_VALUE);
        House.due("program()", x.program(), 0);
        // What was cut off does not come again.
        House.tape(x, "fun f(){}fun g(){}");
        x.end(9);
        House.due("end(18)", x.end(18), false);
        House.due("program()", x.program(), 0);
        House.due("count(2)", x.count(2), 1);
    }

    /** "The TAPE (empty behind it) is the TEXT"; with a FAULT "there is no program then"; "There is no run." */
    private static void programs() {
        for (String text : new String[] {"fun f(){}", "fun f(){?}"}) {
            FlatHouse x = ran();
            x.image();
            House.tape(x, text);
            int fault = x.program();
            House.due("program()", fault, text.contains("?") ? 1 : 0);
            House.due("end(1)", x.end(1), false);
            House.due("result(0)", x.result(0), -1);
            House.due("output(0)", x.output(0), 0);
            House.due("thread(0, 0)", x.thread(0, 0), -1);
            House.due("byteAt(0)", x.byteAt(0), -1);
            House.due("image()", x.image(), -1);
            House.due("count(0)", x.count(0), 0);
            House.due("count(1)", x.count(1), 0);
            House.due("count(2)", x.count(2), fault == 0 ? 1 : 0);
            House.due("count(3)", x.count(3), fault == 0 ? 6 : 0);
            House.due("type(0, 0)", x.type(0, 0), -1);
            House.due("slot(-1, 0, 0)", x.slot(-1, 0, 0), -1);
            House.due("element(7, 1)", x.element(7, 1), -1);
            House.due("fun(0, 0)", x.fun(0, 0), fault == 0 ? 0 : -1);
            House.due("fun(1, 0)", x.fun(1, 0), -1);
            House.due("run", thrown(x, 0, 1), fault == 0 ? 0 : 1);
        }
    }

    private static void faults() {
        FlatHouse x = new FlatHouse();
        for (int round = 0; round < 4; round++) {
            int fault = round == 2 ? 1 : 0;
            House.due("fault(0)", x.fault(0), fault);
            House.due("fault(1)", x.fault(1), round == 2 ? 3 : -1);
            for (int what : FAR) {
                House.due("fault(" + what + ")", x.fault(what), -1);
            }
            House.due("fault(-1)", x.fault(-1), -1);
            House.due("fault(2)", x.fault(2), -1);
            House.tape(x, round == 1 ? "fun" : TEXT);
            // It is of the latest program(): feed() alone changes nothing.
            House.due("fault(0) behind feed()", x.fault(0), fault);
            x.program();
        }
    }

    private static void counts() {
        int[] due = {3, 3, 4};
        FlatHouse x = House.with(TEXT);
        for (int what = 0; what < 3; what++) {
            House.due("count(" + what + ")", x.count(what), due[what]);
        }
        for (FlatHouse y : new FlatHouse[] {x, new FlatHouse()}) {
            for (int what : FAR) {
                House.due("count(" + what + ")", y.count(what), -1);
            }
            House.due("count(-1)", y.count(-1), -1);
            House.due("count(4)", y.count(4), -1);
        }
    }

    /** "MOST 0 .. 32, BITS 0 .. 7, PARTS 0 .. 16: true .. false, and all stays, for others". */
    private static void policies() {
        FlatHouse x = ran();
        int[] most = {0, 32};
        int[] bits = {0, 7};
        int[] parts = {0, 16};
        House.due("policy(16, 7, 2)", x.policy(16, 7, 2), true);
        House.due("run", x.run(0, 1, 100), 0);
        int many = x.image();
        int[][] wrong = {{-1, 33}, {-1, 8}, {-1, 17}};
        for (int side = 0; side < 2; side++) {
            refused(x, wrong[0][side], 7, 2, many);
            refused(x, 16, wrong[1][side], 2, many);
            refused(x, 16, 7, wrong[2][side], many);
        }
        for (int n : FAR) {
            refused(x, n, 0, 0, many);
            refused(x, 0, n, 0, many);
            refused(x, 0, 0, n, many);
            refused(x, n, n, n, many);
        }
        for (int m : most) {
            for (int b : bits) {
                for (int p : parts) {
                    x.run(0, 1, 100);
                    x.image();
                    House.due("policy(" + m + ", " + b + ", " + p + ")", x.policy(m, b, p), true);
                    House.due("result(0)", x.result(0), -1);
                    House.due("thread(0, 0)", x.thread(0, 0), -1);
                    House.due("output(0)", x.output(0), 0);
                    House.due("byteAt(0)", x.byteAt(0), -1);
                    House.due("image()", x.image(), -1);
                    House.due("slot(-1, 1, 2)", x.slot(-1, 1, 2), m == 32 && b == 7 ? 3 : 1);
                    House.due("type(1, 5)", x.type(1, 5), p == 16 ? 1 : 0);
                    House.due("type(2, 5)", x.type(2, 5), 1);
                }
            }
        }
        // It stays from one program to the next, with a FAULT between, too.
        House.due("policy(32, 7, 16)", x.policy(32, 7, 16), true);
        x.program();
        House.tape(x, TEXT);
        x.program();
        House.due("slot(-1, 1, 2)", x.slot(-1, 1, 2), 3);
    }

    private static void refused(FlatHouse x, int most, int bits, int parts, int many) {
        String of = " behind policy(" + most + ", " + bits + ", " + parts + ")";
        House.due("answer" + of, x.policy(most, bits, parts), false);
        House.due("slot(-1, 1, 2)" + of, x.slot(-1, 1, 2), 3);
        House.due("element(8, 2)" + of, x.element(8, 2), 2);
        House.due("type(1, 5)" + of, x.type(1, 5), 1);
        House.due("result(0)" + of, x.result(0), 0);
        House.due("output(0)" + of, x.output(0), 5);
        House.due("thread(0, 0)" + of, x.thread(0, 0), 2);
        House.due("byteAt(many - 1)" + of, x.byteAt(many - 1) >= 0, true);
        House.due("byteAt(many)" + of, x.byteAt(many), -1);
    }

    private static void types() {
        FlatHouse x = House.with(TEXT);
        for (int c = -3; c <= 9; c++) {
            for (int what = -2; what <= 8; what++) {
                boolean there = c >= 0 && c < 3 && what >= 0 && what < 6;
                House.due("type(" + c + ", " + what + ")", x.type(c, what) != -1, there);
            }
        }
        for (int n : FAR) {
            House.due("type(" + n + ", 0)", x.type(n, 0), -1);
            House.due("type(0, " + n + ")", x.type(0, n), -1);
        }
    }

    private static void slots() {
        FlatHouse x = House.with(TEXT);
        int[] fields = {2, 2, 0};
        for (int c = -3; c <= 9; c++) {
            for (int f = -3; f <= 9; f++) {
                int many = c == -1 ? 3 : c >= 0 && c < 3 ? fields[c] : 0;
                for (int what = -2; what <= 6; what++) {
                    // Without a POLICY no SLOT has a MARK.
                    boolean there = f >= 0 && f < many && what >= 0 && what < 3;
                    House.due("slot(" + c + ", " + f + ", " + what + ")", x.slot(c, f, what) != -1, there);
                }
            }
        }
        for (int n : FAR) {
            House.due("slot(" + n + ", 0, 1)", x.slot(n, 0, 1), -1);
            House.due("slot(0, " + n + ", 1)", x.slot(0, n, 1), -1);
            House.due("slot(-1, " + n + ", 1)", x.slot(-1, n, 1), -1);
            House.due("slot(0, 0, " + n + ")", x.slot(0, 0, n), -1);
            House.due("slot(-1, 0, " + n + ")", x.slot(-1, 0, n), -1);
        }
    }

    private static void elements() {
        FlatHouse x = House.with(TEXT);
        for (int code = -3; code <= 30; code++) {
            boolean type = code >= 0 && code <= 10 && code != 6;
            for (int what = -2; what <= 6; what++) {
                House.due("element(" + code + ", " + what + ")", x.element(code, what) != -1, type && (what == 1 || what == 2));
            }
        }
        for (int n : FAR) {
            House.due("element(" + n + ", 1)", x.element(n, 1), -1);
            House.due("element(1, " + n + ")", x.element(1, n), -1);
        }
    }

    private static void funs() {
        FlatHouse x = House.with(TEXT);
        int[][] due = {{0, -1, 0}, {1, 7, 2}, {0, 101, 1}, {0, -1, 0}};
        for (int k = -3; k <= 12; k++) {
            for (int what = -2; what <= 5; what++) {
                boolean there = k >= 0 && k < 4 && what >= 0 && what < 3;
                House.due("fun(" + k + ", " + what + ")", x.fun(k, what), there ? due[k][what] : -1);
            }
        }
        for (int n : FAR) {
            House.due("fun(" + n + ", 0)", x.fun(n, 0), -1);
            House.due("fun(0, " + n + ")", x.fun(0, n), -1);
        }
    }

    /** 0 nothing, 1 IllegalStateException, 2 IllegalArgumentException. */
    private static int thrown(FlatHouse x, int k, int steps) {
        try {
            x.run(k, 1, steps);
            return 0;
        } catch (IllegalStateException e) {
            return 1;
        } catch (IllegalArgumentException e) {
            return 2;
        }
    }

    /** "no program"; "no such FUN, it has parameters, or steps are not 1 .. 4000". */
    private static void wrongRuns() {
        FlatHouse x = House.with(TEXT);
        FlatHouse none = new FlatHouse();
        for (int k = -2; k <= 12; k++) {
            House.due("run(" + k + ", 1, 9)", thrown(x, k, 9), k == 0 || k == 2 || k == 3 ? 0 : 2);
            House.due("run(" + k + ", 1, 9) without a program", thrown(none, k, 9), 1);
        }
        for (int steps : new int[] {-4000, -1, 0, 1, 2, 3999, 4000, 4001, 4002, 8000}) {
            House.due("run(0, 1, " + steps + ")", thrown(x, 0, steps), steps < 1 || steps > 4000 ? 2 : 0);
            House.due("run(1, 1, " + steps + ")", thrown(x, 1, steps), 2);
            House.due("run(0, 1, " + steps + ") without a program", thrown(none, 0, steps), 1);
        }
        for (int n : FAR) {
            House.due("run(" + n + ", 1, 9)", thrown(x, n, 9), 2);
            House.due("run(0, 1, " + n + ")", thrown(x, 0, n), n < 1 || n > 4000 ? 2 : 0);
            House.due("run(" + n + ", 1, " + n + ") without a program", thrown(none, n, n), 1);
        }
    }

    private static void wrongRunsChangeNothing() {
        FlatHouse x = ran();
        int many = x.image();
        int[][] wrong = {{-1, 5}, {4, 5}, {1, 5}, {0, 0}, {0, 4001}};
        for (int[] w : wrong) {
            House.due("a wrong run", thrown(x, w[0], w[1]), 2);
            House.due("result(0)", x.result(0), 0);
            House.due("result(3)", x.result(3), 2);
            House.due("output(0)", x.output(0), 5);
            House.due("thread(0, 0)", x.thread(0, 0), 2);
            House.due("byteAt(many - 1)", x.byteAt(many - 1) >= 0, true);
        }
    }

    private static void results() {
        FlatHouse x = ran();
        int[] due = {0, 5, 1, 2, 1, 3, 1, 0, 1, 1};
        for (int what = -3; what <= 13; what++) {
            House.due("result(" + what + ")", x.result(what), what >= 0 && what < 10 ? due[what] : -1);
        }
        FlatHouse none = House.with(TEXT);
        for (int what : FAR) {
            House.due("result(" + what + ")", x.result(what), -1);
            House.due("result(" + what + ") without a run", none.result(what), -1);
        }
        for (int what = 0; what < 10; what++) {
            House.due("result(" + what + ") without a run", none.result(what), -1);
        }
    }

    /** "(the first 100 are kept)"; "0 if there is none". */
    private static void outputs() {
        for (int many : new int[] {0, 1, 99, 100, 101, 102, 200}) {
            FlatHouse x = House.with("fun f(){int i=0;while i<" + many + "{i=i+1;out i+1000;}}");
            House.due("output(0) ahead of a run", x.output(0), 0);
            House.due("run", x.run(0, 1, 4000), 0);
            House.due("result(3)", x.result(3), many);
            for (int i = -2; i <= 205; i++) {
                House.due("output(" + i + ") of " + many, x.output(i), i >= 0 && i < many && i < 100 ? i + 1001 : 0);
            }
            for (int i : FAR) {
                House.due("output(" + i + ")", x.output(i), 0);
            }
        }
        // Nothing of a longer run is left behind a shorter one.
        FlatHouse x = House.with("fun f(){int i=0;while i<50{i=i+1;out 7;}}fun g(){out 8;}");
        x.run(0, 1, 4000);
        x.run(1, 1, 4000);
        House.due("output(0)", x.output(0), 8);
        House.due("output(1)", x.output(1), 0);
    }

    private static void threads() {
        FlatHouse x = House.with("fun w(){}fun f(){spawn w();spawn w();}");
        x.run(1, 1, 99);
        for (int t = -3; t <= 9; t++) {
            for (int what = -3; what <= 6; what++) {
                boolean there = t >= 0 && t < 3 && what >= 0 && what < 3;
                House.due("thread(" + t + ", " + what + ")", x.thread(t, what), there ? what == 0 ? 2 : 0 : -1);
            }
        }
        for (int n : FAR) {
            House.due("thread(" + n + ", 0)", x.thread(n, 0), -1);
            House.due("thread(0, " + n + ")", x.thread(0, n), -1);
        }
        // Fewer threads in the next run: those of the run before are gone.
        x.run(0, 1, 99);
        House.due("thread(0, 0)", x.thread(0, 0), 2);
        House.due("thread(1, 0)", x.thread(1, 0), -1);
    }

    /** An array of 600 bytes and more of them in values: an IMAGE of just so many bytes. */
    private static int imageOf(int values, int bytes) {
        // R has a reference and 28 bytes: 40 bytes each in the IMAGE, so 40 of them 1600.
        FlatHouse x = House.with("value R{R r;long a;long b;long c;}global any[]g;global byte[]b;fun mk(int n)R{R r=null;long l=1 as long;while 0<n{r=new R(r,l,l,l);n=n-1;}return r;}"
                + "fun f(){g=new any[40];b=new byte[" + bytes + "];R r=mk(40);int n=" + values + ";int i=0;while 0<n{if n<40{r=mk(n);}g[i]=r;n=n-40;i=i+1;}}");
        House.due("run", x.run(1, 1, 4000), 0);
        House.due("thread(0, 0)", x.thread(0, 0), 2);
        int many = x.image();
        House.due("byteAt(0)", x.byteAt(0), many == -1 ? -1 : 0);
        House.due("byteAt(59999)", x.byteAt(59999), many == 60000 ? 0 : -1);
        House.due("byteAt(60000)", x.byteAt(60000), -1);
        return many;
    }

    /** "NONE, and there is none, without a run, or if it would have more than 60000". */
    private static void images() {
        // 8 and 8 of the GLOBALS, 168 of g with its 40 elements, 8 and the bytes of b, 40 for each value.
        int head = 16 + 168 + 8;
        int values = (60000 - head) / 40;
        int rest = 60000 - head - 40 * values;
        House.due("image() of 60000", imageOf(values, rest), 60000);
        House.due("image() of 60000 with one byte less in it", imageOf(values, rest - 1), 60000);
        House.due("image() of 59992", imageOf(values, rest - 8), 59992);
        House.due("image() of 60008", imageOf(values, rest + 1), -1);
        House.due("image() of 60008, full", imageOf(values, rest + 8), -1);
        House.due("image() of one value more", imageOf(values + 1, rest), -1);
        FlatHouse x = House.with("fun f(){}");
        House.due("image() without a run", x.image(), -1);
        x.run(0, 1, 1);
        House.due("image()", x.image(), 8);
        House.due("image() again", x.image(), 8);
        // One that would be too large takes away the one that was made ahead of it.
        x = House.with("value R{R r;long a;long b;long c;}global R[]g;fun f(){R r=null;long l=1 as long;int i=0;while i<40{r=new R(r,l,l,l);i=i+1;}g=new R[60];i=0;while i<60{g[i]=r;i=i+1;}}fun e(){}");
        x.run(1, 1, 9);
        House.due("image()", x.image(), 16);
        x.run(0, 1, 999);
        House.due("image() too large", x.image(), -1);
        House.due("byteAt(0)", x.byteAt(0), -1);
    }

    /** "NONE if there is none (so behind another run(), program(), policy() that answers true)". */
    private static void bytesAt() {
        FlatHouse x = ran();
        House.due("byteAt(0) ahead of image()", x.byteAt(0), -1);
        int many = x.image();
        for (int i : FAR) {
            House.due("byteAt(" + i + ")", x.byteAt(i) == -1, i < 0 || i >= many);
        }
        House.due("byteAt(-1)", x.byteAt(-1), -1);
        House.due("byteAt(many)", x.byteAt(many), -1);
        House.due("byteAt(many - 1)", x.byteAt(many - 1) >= 0, true);
        for (int i = 0; i < many; i++) {
            House.due("byteAt(" + i + ") is a byte", x.byteAt(i) >= 0 && x.byteAt(i) <= 255, true);
        }
        x.policy(33, 0, 0);
        House.due("byteAt behind a policy() that answers false", x.byteAt(0), 0);
        x.feed(0, 0, 0, 0, 0);
        x.end(0);
        House.due("byteAt behind feed() and end()", x.byteAt(0), 0);
        x.run(0, 1, 100);
        House.due("byteAt behind run()", x.byteAt(0), -1);
        x.image();
        x.policy(0, 0, 0);
        House.due("byteAt behind policy()", x.byteAt(0), -1);
        x.run(0, 1, 100);
        x.image();
        House.due("byteAt behind image()", x.byteAt(0), 0);
        x.program();
        House.due("byteAt behind program()", x.byteAt(0), -1);
        House.due("image() behind program()", x.image(), -1);
    }

    /** "An object is used for at most 512 calls after it has been made": the last is as good as the first. */
    private static void allCalls() {
        FlatHouse x = new FlatHouse();
        int calls = 0;
        String text = "class C{int n;}global C c;fun w(){lock c{c.n=c.n+1;}}fun f(){c=new C(hash c);spawn w();spawn w();fail 1;}";
        while (calls < 500) {
            House.tape(x, text);
            calls += (text.length() + 19) / 20 + 1;
            House.due("program() as call " + calls, x.program(), 0);
            for (int i = 0; i < 12; i++) {
                House.due("run as call " + calls, x.run(1, calls, 100), 0);
                House.due("result(4) as call " + calls, x.result(4), 1);
                House.due("image() as call " + calls, x.image(), 32);
                House.due("byteAt(27) as call " + calls, x.byteAt(27), 2);
            }
            calls += 1 + 4 * 12;
        }
        House.due("as many calls as may be", calls <= 512, true);
    }
}
