/** Promises 12, 13 and 15: STEPS, threads in their order, locks, how a run ends. */
public final class ThreadTest {
    private static final String LOCKED = "class C { } global C g ; fun w ( int n ) { lock g { out n ; out n ; } out n + 10 ; } "
            + "fun main ( ) { g = new C ( ) ; spawn w ( 1 ) ; spawn w ( 2 ) ; spawn w ( 3 ) ; }";

    public static void main(String[] args) {
        steps();
        cut();
        for (int seed = -50; seed < 50; seed++) {
            orderBySeed(seed * 48271);
            lockedBySeed(seed * 69621);
        }
        stuck();
        ownLock();
        unlocking();
        waitingOnce();
        cutWithLocks();
        emptyFuns();
        states();
        House.finish();
    }

    private static void stepsOf(String text, int wanted) {
        FlatHouse x = House.with(text);
        House.due("run of " + text, House.go(x, 3, 4000), 0);
        House.due("result(1) of " + text, x.result(1), wanted);
    }

    private static void steps() {
        stepsOf("fun f ( ) { out 1 ; }", 1);
        stepsOf("fun f ( ) { if 1 { } }", 1);
        stepsOf("fun f ( ) { if 1 { out 1 ; } else { out 2 ; out 3 ; } }", 2);
        stepsOf("fun f ( ) { if 0 { out 1 ; } else { out 2 ; out 3 ; } }", 3);
        stepsOf("fun f ( ) { while 0 { out 1 ; } }", 1);
        stepsOf("fun f ( ) { int i = 0 ; while i < 3 { i = i + 1 ; } }", 1 + 4 + 3);
        stepsOf("fun f ( ) { try { out 1 ; } catch e { out e ; } }", 2);
        stepsOf("fun f ( ) { try { fail 1 ; out 2 ; } catch e { out e ; } }", 3);
        stepsOf("fun g ( ) int { return 5 ; } fun f ( ) { out g ( ) + g ( ) ; }", 3);
        stepsOf("fun g ( ) int { } fun f ( ) { out g ( ) + g ( ) ; }", 1);
        stepsOf("class C { } fun f ( ) { lock new C ( ) { } }", 1);
        stepsOf("class C { } fun f ( ) { lock new C ( ) { return ; } }", 2);
        stepsOf("fun g ( ) { out 1 ; } fun f ( ) { spawn g ( ) ; g ( ) ; }", 4);
        stepsOf("fun f ( ) { fail 1 ; out 1 ; }", 1);
    }

    private static void cut() {
        FlatHouse x = House.with("fun f ( ) { out 1 ; out 2 ; }");
        House.due("run of 1 step", x.run(0, 0, 1), 2);
        House.due("result(0)", x.result(0), 2);
        House.due("result(1)", x.result(1), 1);
        House.due("result(3)", x.result(3), 1);
        House.due("thread(0, 0)", x.thread(0, 0), 0);
        House.due("thread(0, 1)", x.thread(0, 1), 0);
        House.due("thread(0, 2)", x.thread(0, 2), 1);
        House.due("run of 2 steps", x.run(0, 0, 2), 0);
        House.due("thread(0, 0)", x.thread(0, 0), 2);
        House.due("thread(0, 2)", x.thread(0, 2), 0);
        x = House.with("fun f ( ) { while 1 { } }");
        House.due("run without end", x.run(0, 0, 4000), 2);
        House.due("result(1)", x.result(1), 4000);
        x = House.with("fun f ( int n ) { if n == 0 { while 1 { } } f ( n - 1 ) ; } fun g ( ) { f ( 4 ) ; }");
        House.due("run in frames", x.run(1, 0, 100), 2);
        House.due("thread(0, 2)", x.thread(0, 2), 6);
        House.due("result(8)", x.result(8), 6);
    }

    /** Which of the READY ones: the document's R. */
    private static final class Chance {
        private int r;

        Chance(int seed) {
            r = seed;
        }

        int among(int many) {
            r = r * 1103515245 + 12345;
            return (r >>> 16) % many;
        }
    }

    private static void orderBySeed(int seed) {
        String text = "fun w ( int n ) { out n ; out n ; out n ; } fun main ( ) { spawn w ( 1 ) ; spawn w ( 2 ) ; spawn w ( 3 ) ; spawn w ( 4 ) ; out 0 ; out 0 ; }";
        FlatHouse x = House.with(text);
        House.due("run", House.go(x, seed, 4000), 0);
        int[] left = new int[5];
        int threads = 1;
        left[0] = 6;
        Chance chance = new Chance(seed);
        int outs = 0;
        int all = 0;
        for (int total = 6; total > 0; total--) {
            int ready = 0;
            for (int t = 0; t < threads; t++) {
                ready += left[t] > 0 ? 1 : 0;
            }
            int k = chance.among(ready);
            int t = 0;
            while (left[t] == 0 || k > 0) {
                k -= left[t] > 0 ? 1 : 0;
                t++;
            }
            left[t]--;
            all++;
            if (t == 0 && left[0] >= 2) {
                left[threads] = 3;
                threads++;
                total += 3;
            } else {
                House.due("seed " + seed + " output(" + outs + ")", x.output(outs), t);
                outs++;
            }
        }
        House.due("seed " + seed + " result(1)", x.result(1), all);
        House.due("seed " + seed + " result(2)", x.result(2), 5);
        House.due("seed " + seed + " result(3)", x.result(3), outs);
    }

    /** A thread w: 0 at its lock, 1 and 2 in it, 3 behind it, 4 over; it waits if it is at 5. */
    private static void lockedBySeed(int seed) {
        FlatHouse x = House.with(LOCKED);
        House.due("run", House.go(x, seed, 4000), 0);
        int[] at = {0, 4, 4, 4};
        int holder = 0;
        int outs = 0;
        int steps = 0;
        Chance chance = new Chance(seed);
        while (at[0] < 4 || at[1] != 4 || at[2] != 4 || at[3] != 4) {
            int ready = 0;
            int[] who = new int[4];
            for (int t = 0; t < 4; t++) {
                if (at[t] != 4 && (at[t] != 5 || holder == 0)) {
                    who[ready] = t;
                    ready++;
                }
            }
            int t = who[chance.among(ready)];
            steps++;
            if (t == 0) {
                if (at[0] > 0) {
                    at[at[0]] = 0;
                }
                at[0]++;
            } else if (at[t] == 0 || at[t] == 5) {
                at[t] = holder == 0 ? 1 : 5;
                holder = holder == 0 ? t : holder;
            } else {
                House.due("seed " + seed + " output(" + outs + ")", x.output(outs), at[t] == 3 ? t + 10 : t);
                outs++;
                holder = at[t] == 2 ? 0 : holder;
                at[t]++;
            }
        }
        House.due("seed " + seed + " result(1)", x.result(1), steps);
        House.due("seed " + seed + " result(3)", x.result(3), outs);
    }

    private static void stuck() {
        String text = "class C { int on ; } global C a ; global C b ; "
                + "fun w ( C x , C y ) { lock x { x . on = 1 ; while not y . on { } lock y { out 1 ; } } } "
                + "fun main ( ) { a = new C ( 0 ) ; b = new C ( 0 ) ; spawn w ( a , b ) ; spawn w ( b , a ) ; out 7 ; }";
        FlatHouse x = House.with(text);
        House.due("run", House.go(x, 9, 4000), 1);
        House.due("result(0)", x.result(0), 1);
        House.due("result(3)", x.result(3), 1);
        House.due("thread(0, 0)", x.thread(0, 0), 2);
        House.due("thread(1, 0)", x.thread(1, 0), 1);
        House.due("thread(2, 0)", x.thread(2, 0), 1);
        House.due("thread(1, 2)", x.thread(1, 2), 1);
        int steps = x.result(1);
        House.due("run with all steps", House.go(x, 9, steps), 1);
        House.due("run with one step less", House.go(x, 9, steps - 1), 2);
    }

    private static void ownLock() {
        House.puts("class C { } fun f ( C c , int n ) { lock c { if n { f ( c , n - 1 ) ; } out n ; } } fun main ( ) { C c = new C ( ) ; f ( c , 3 ) ; lock c { lock c { out 9 ; } } }", 0, 1, 2, 3, 9);
        String text = "class C { } global C c ; global int go ; fun w ( ) { while not go { } lock c { out 2 ; } } "
                + "fun main ( ) { c = new C ( ) ; spawn w ( ) ; lock c { lock c { go = 1 ; } int i = 0 ; while i < 50 { i = i + 1 ; } out 1 ; } }";
        House.puts(text, 1, 2);
    }

    /** Locks are left by return, by a FAILURE that is caught further out, and by a thread that FAILS. */
    private static void unlocking() {
        String ahead = "class C { } global C c ; global int go ; fun after ( ) { while not go { } lock c { out 2 ; } } ";
        House.puts(ahead + "fun w ( ) int { lock c { lock c { return 5 ; } } } fun main ( ) { c = new C ( ) ; spawn after ( ) ; out w ( ) ; go = 1 ; }", 5, 2);
        House.puts(ahead + "fun w ( ) { lock c { lock c { fail 4 ; } } } fun main ( ) { c = new C ( ) ; spawn after ( ) ; try { lock c { w ( ) ; } } catch e { out e ; } go = 1 ; }", 4, 2);
        FlatHouse x = House.with(ahead + "fun w ( ) { lock c { go = 1 ; fail 4 ; } } fun main ( ) { c = new C ( ) ; spawn after ( ) ; spawn w ( ) ; }");
        House.due("run", House.go(x, 2, 4000), 0);
        House.due("output(0)", x.output(0), 2);
        House.due("thread(1, 0)", x.thread(1, 0), 2);
        House.due("thread(2, 0)", x.thread(2, 0), 3);
        House.due("thread(2, 1)", x.thread(2, 1), 4);
        x = House.with(ahead + "fun main ( ) { c = new C ( ) ; spawn after ( ) ; try { lock c { fail 3 ; } } catch e { go = 1 ; while 1 { } } }");
        House.due("run", House.go(x, 2, 500), 2);
        House.due("output(0)", x.output(0), 2);
    }

    private static void waitingOnce() {
        String text = "class C { } global C c ; global int n ; global int in ; fun it ( ) C { n = n + 1 ; return c ; } "
                + "fun w ( ) { while not in { } lock it ( ) { out n ; } } "
                + "fun main ( ) { c = new C ( ) ; spawn w ( ) ; lock c { in = 1 ; while not n { } int i = 0 ; while i < 20 { i = i + 1 ; } } }";
        House.puts(text, 1);
    }

    /** Locks that a run left held are free in the next one. */
    private static void cutWithLocks() {
        FlatHouse x = House.with(LOCKED);
        for (int steps = 1; steps < 17; steps++) {
            House.due("run of " + steps, House.go(x, steps, steps), 2);
            House.due("run of all", House.go(x, steps, 4000), 0);
            House.due("result(3)", x.result(3), 9);
        }
    }

    private static void emptyFuns() {
        FlatHouse x = House.with("value V { } fun f ( ) { } fun g ( ) V ! { } fun main ( ) { spawn f ( ) ; spawn g ( ) ; out 1 ; }");
        House.due("run of an empty FUN", x.run(0, 1, 1), 0);
        House.due("result(1)", x.result(1), 0);
        House.due("result(8)", x.result(8), 1);
        House.due("thread(0, 0)", x.thread(0, 0), 2);
        House.due("run of an empty FUN with !", x.run(1, 1, 1), 0);
        House.due("thread(0, 0)", x.thread(0, 0), 3);
        House.due("thread(0, 1)", x.thread(0, 1), 1);
        House.due("run of three", x.run(2, 1, 3), 0);
        House.due("result(1)", x.result(1), 3);
        House.due("result(2)", x.result(2), 3);
        House.due("thread(1, 0)", x.thread(1, 0), 2);
        House.due("thread(1, 2)", x.thread(1, 2), 0);
        House.due("thread(2, 0)", x.thread(2, 0), 3);
        House.due("thread(2, 2)", x.thread(2, 2), 0);
    }

    private static void states() {
        FlatHouse x = House.with("fun w ( ) int { return 1 ; } fun main ( ) { spawn w ( ) ; fail 12 ; }");
        House.due("thread(0, 0) ahead of a run", x.thread(0, 0), -1);
        House.due("run", House.go(x, 4, 50), 0);
        House.due("thread(0, 0)", x.thread(0, 0), 3);
        House.due("thread(0, 1)", x.thread(0, 1), 12);
        House.due("thread(0, 2)", x.thread(0, 2), 0);
        House.due("thread(1, 0)", x.thread(1, 0), 2);
        House.due("thread(1, 1)", x.thread(1, 1), 0);
        House.due("thread(0, 3)", x.thread(0, 3), -1);
        House.due("thread(0, -1)", x.thread(0, -1), -1);
        House.due("thread(2, 0)", x.thread(2, 0), -1);
        House.due("thread(-1, 0)", x.thread(-1, 0), -1);
        House.due("result(7)", x.result(7), 1);
    }
}
