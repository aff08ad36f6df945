/** Terms, section 2: STEPS up to the last one that may be, and how a RUN ends with one less and one more. */
public final class StepEdgeTest {
    public static void main(String[] args) {
        eachStatement();
        furtherLooks();
        allSteps();
        stuckOrCut();
        waitingTakesSteps();
        readyAgain();
        seeds();
        othersGoOn();
        statesWhenCut();
        House.finish();
    }

    /** That the last FUN ENDS (or is STUCK) in just so many STEPS, and is CUT with each number below. */
    private static void takes(String text, int seed, int steps, int end) {
        FlatHouse x = House.with(text);
        for (int limit = 1; limit <= steps + 2; limit++) {
            String of = " of " + limit + " steps of " + text;
            House.due("run" + of, House.go(x, seed, limit), limit < steps ? 2 : end);
            House.due("result(0)" + of, x.result(0), limit < steps ? 2 : end);
            House.due("result(1)" + of, x.result(1), Math.min(limit, steps));
        }
    }

    private static void ends(String text, int steps) {
        takes(text, 7, steps, 0);
    }

    /** "each STATEMENT as it begins": each sort is one STEP, with all that is worked out in it. */
    private static void eachStatement() {
        String kinds = "class C{int n;}value V{int x;}global C c;global int g;global int[]a;fun e(){}fun r()int{return 1;}fun t(){g=1;g=2;}";
        String[] one = {"int l=1;", "V! l=new V(1)with x(2);", "g=1;", "a=new int[3];", "if 0{g=1;}", "if 1{}", "if 1{}else{g=1;}", "while 0{g=1;}", "return;", "out 1;", "fail 3;",
            "e();", "spawn e();", "try{}catch e{g=1;}", "lock new C(1){}", "c.n=1;", "out 1/0;"};
        for (String s : one) {
            ends(kinds + "fun main(){" + s + "}", 1);
        }
        String[] two = {"g=1;g=2;", "if 1{g=1;}", "if 0{}else{g=1;}", "out r();", "r();", "int l=r();", "lock new C(1){g=1;}", "try{g=1;}catch e{}", "try{g=1;}catch e{g=2;}",
            "try{fail 1;}catch e{}", "if 1{fail 1;}", "if r(){}", "fail r();", "g=1;return;", "if 1{return;}g=1;", "g=1+r();", "try{out 1/0;}catch e{}"};
        for (String s : two) {
            ends(kinds + "fun main(){" + s + "}", 2);
        }
        String[] three = {"out r()+r();", "try{fail 1;}catch e{g=1;}", "t();", "spawn t();", "if 1{if 1{g=1;}}", "lock new C(1){lock new C(2){g=1;}}", "g=r();g=1;"};
        for (String s : three) {
            ends(kinds + "fun main(){" + s + "}", 3);
        }
        ends(kinds + "fun main(){spawn t();spawn t();t();}", 3 + 6);
    }

    /** "each further look of a while". */
    private static void furtherLooks() {
        for (int n = 0; n <= 5; n++) {
            ends("global int g;fun main(){while g<" + n + "{g=g+1;}}", n + 1 + n);
            ends("global int g;fun t()int{g=g+1;return g-1;}fun main(){while t()<" + n + "{}}", (n + 1) * 3);
        }
        ends("global int g;fun main(){while 1{return;}}", 2);
        ends("global int g;fun main(){while 1{fail 1;}}", 2);
        ends("global int g;fun main(){try{while 1{fail 1;}}catch e{g=e;}}", 4);
        ends("global int g;fun main(){while g<2{g=g+1;while g<1{}}}", 3 + 2 + 2);
    }

    /** "CUT when a STEP would be one too many", with as many as run() takes. */
    private static void allSteps() {
        // A first STEP, then a look and a STATEMENT a round, a last look.
        for (int rounds = 1998; rounds <= 2000; rounds++) {
            FlatHouse x = House.with("fun main(){int i=0;while i<" + rounds + "{i=i+1;}}");
            int steps = 2 + 2 * rounds;
            House.due("run of " + steps, House.go(x, 0, 4000), steps <= 4000 ? 0 : 2);
            House.due("result(1)", x.result(1), Math.min(steps, 4000));
            House.due("thread(0, 0)", x.thread(0, 0), steps <= 4000 ? 2 : 0);
            House.due("run of 1", House.go(x, 0, 1), 2);
        }
        ends("fun main(){}", 0);
    }

    /** With no thread READY at the last STEP it is STUCK, not CUT; with all over it has ENDED. */
    private static void stuckOrCut() {
        String two = "class C{int on;}global C a;global C b;fun w(C x,C y){lock x{x.on=1;while not y.on{}lock y{out 1;}}}"
                + "fun main(){a=new C(0);b=new C(0);spawn w(a,b);spawn w(b,a);}";
        for (int seed = 0; seed < 20; seed++) {
            FlatHouse x = House.with(two);
            House.due("run", House.go(x, seed, 4000), 1);
            takes(two, seed, x.result(1), 1);
        }
        // THREAD 0 itself waits for what none will give free.
        String main = "class C{int on;}global C c;fun w(){lock c{c.on=1;lock c{while 1{}}}}fun main(){c=new C(0);spawn w();while not c.on{}lock c{}}";
        FlatHouse x = House.with(main);
        House.due("run", House.go(x, 3, 500), 2);
        House.due("thread(0, 0)", x.thread(0, 0), 1);
        House.due("thread(1, 0)", x.thread(1, 0), 0);
        // A thread that FAILS or is over leaves nothing locked: so none is stuck on it.
        for (String leave : new String[] {"fail 1;", "return;", "out 1/0;", ""}) {
            x = House.with("class C{int on;}global C c;fun w(){lock c{c.on=1;" + leave + "}}fun main(){c=new C(0);spawn w();while not c.on{}lock c{out 5;}}");
            House.due("run with " + leave, House.go(x, 3, 500), 0);
            House.due("thread(0, 0)", x.thread(0, 0), 2);
            House.due("output(0)", x.output(0), 5);
        }
    }

    /** A STEP that meets a lock which is held, one more that takes it: "takes it then as a STEP". */
    private static void waitingTakesSteps() {
        // Thread 1 comes to its lock only while thread 0 has it, and thread 0 leaves it only long behind that.
        String text = "class C{int on;int by;}global C c;fun look()C{c.by=1;return c;}fun w(){while not c.on{}lock look(){c.by=2;}}"
                + "fun main(){c=new C(0,0);spawn w();lock c{c.on=1;int i=0;while i<40{i=i+c.by;}}}";
        for (int seed = 0; seed < 30; seed++) {
            FlatHouse x = House.with(text);
            House.due("run", House.go(x, seed, 4000), 0);
            int steps = x.result(1);
            takes(text, seed, steps, 0);
            boolean waited = false;
            for (int limit = 1; limit <= steps; limit++) {
                House.go(x, seed, limit);
                waited |= x.thread(1, 0) == 1;
                House.due("thread(0, 1)", x.thread(0, 1), 0);
            }
            House.due("a thread WAITS at seed " + seed, waited, true);
        }
        // Where none holds it, a lock is one STEP.
        ends("class C{}global C c;fun main(){c=new C();lock c{}lock c{lock c{}}}", 4);
    }

    /** A thread that waits is READY as soon as the lock is free, by whichever way that came. */
    private static void readyAgain() {
        String[] ways = {"", "return;", "fail 1;", "out 1/0;", "lock c{}", "lock c{return;}", "try{fail 1;}catch e{}", "lock c{fail 2;}"};
        for (String way : ways) {
            String text = "class C{int on;int by;}global C c;fun look()C{c.by=1;return c;}fun w(){lock look(){}}"
                    + "fun in(){lock c{spawn w();while not c.by{}" + way + "}}fun main(){c=new C(0,0);try{in();}catch e{}while 1{}}";
            FlatHouse x = House.with(text);
            House.due("run with " + way, House.go(x, 11, 300), 2);
            House.due("thread(1, 0) with " + way, x.thread(1, 0), 2);
        }
        String held = "class C{int on;int by;}global C c;fun look()C{c.by=1;return c;}fun w(){lock look(){}}"
                + "fun main(){c=new C(0,0);lock c{lock c{spawn w();while not c.by{}}while 1{}}}";
        FlatHouse x = House.with(held);
        House.due("run", House.go(x, 11, 300), 2);
        House.due("thread(1, 0), one lock of two left", x.thread(1, 0), 1);
    }

    /** "k being (R >>> 16) modulo how many, R (at first the seed) becoming R * 1103515245 + 12345 ahead of that". */
    private static void seeds() {
        int[] seeds = {0, 1, -1, 2, 12345, -12345, 65535, 65536, Integer.MAX_VALUE, Integer.MIN_VALUE, 0x7fff0000, 0x80000000, 0xffff0000};
        for (int threads = 1; threads <= 5; threads++) {
            FlatHouse x = House.with("global int go;fun w(int n){while not go{}out n;out n;out n;}fun main(){" + spawns(threads) + "go=1;}");
            for (int seed : seeds) {
                House.due("run", House.go(x, seed, 4000), 0);
                follow(x, seed, threads);
            }
        }
    }

    private static String spawns(int threads) {
        StringBuilder all = new StringBuilder();
        for (int i = 1; i <= threads; i++) {
            all.append("spawn w(").append(i).append(");");
        }
        return all.toString();
    }

    /** The same order, reckoned here with longs: a thread's left STEPS, those ahead of go without a number. */
    private static void follow(FlatHouse x, int seed, int threads) {
        long r = seed & 0xffffffffL;
        int made = 1;
        int mainLeft = threads + 1;
        int[] left = new int[threads + 1];
        int outs = 0;
        int steps = 0;
        while (true) {
            int[] ready = new int[threads + 1];
            int many = 0;
            for (int t = 0; t < made; t++) {
                if (t == 0 ? mainLeft > 0 : left[t] > 0) {
                    ready[many] = t;
                    many++;
                }
            }
            if (many == 0) {
                break;
            }
            r = (r * 1103515245L + 12345L) & 0xffffffffL;
            int t = ready[(int) ((r >> 16) % many)];
            steps++;
            if (t == 0) {
                mainLeft--;
                if (mainLeft > 0) {
                    left[made] = 4;
                    made++;
                }
            } else if (left[t] == 4) {
                left[t] = mainLeft == 0 ? 3 : 4;
            } else {
                House.due("output(" + outs + ") of seed " + seed, x.output(outs), t);
                outs++;
                left[t]--;
            }
        }
        House.due("result(1) of seed " + seed, x.result(1), steps);
        House.due("result(3) of seed " + seed, x.result(3), outs);
        House.due("result(2) of seed " + seed, x.result(2), threads + 1);
    }

    /** "ENDED when all threads are over", not when THREAD 0 is. */
    private static void othersGoOn() {
        FlatHouse x = House.with("fun w(){int i=0;while i<20{i=i+1;}out i;}fun main(){spawn w();spawn w();}");
        House.due("run", House.go(x, 1, 4000), 0);
        House.due("result(3)", x.result(3), 2);
        x = House.with("fun w(){int i=0;while i<20{i=i+1;}out i;}fun main(){spawn w();fail 2;}");
        House.due("run", House.go(x, 1, 4000), 0);
        House.due("output(0)", x.output(0), 20);
        House.due("thread(0, 1)", x.thread(0, 1), 2);
        House.due("thread(1, 0)", x.thread(1, 0), 2);
    }

    private static void statesWhenCut() {
        FlatHouse x = House.with("fun d(int n){if n{d(n-1);}else{while 1{}}}fun main(){spawn d(3);d(1);}");
        House.due("run", House.go(x, 2, 200), 2);
        House.due("thread(0, 0)", x.thread(0, 0), 0);
        House.due("thread(0, 2)", x.thread(0, 2), 3);
        House.due("thread(1, 0)", x.thread(1, 0), 0);
        House.due("thread(1, 2)", x.thread(1, 2), 4);
        House.due("result(8)", x.result(8), 4);
        // A thread that was made but has had no STEP is READY in its first frame.
        x = House.with("fun w(){out 1;}fun main(){spawn w();out 2;}");
        House.due("run of 1", House.go(x, 2, 1), 2);
        House.due("result(2)", x.result(2), 2);
        House.due("thread(1, 0)", x.thread(1, 0), 0);
        House.due("thread(1, 1)", x.thread(1, 1), 0);
        House.due("thread(1, 2)", x.thread(1, 2), 1);
    }
}
