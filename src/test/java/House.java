/** What the tests share: houses with programs in them, and a count of answers that were not due. */
final class House {
    private static int wrong;

    private House() {
    }

    static void due(String call, long got, long want) {
        if (got != want) {
            wrong++;
            System.out.println(call + " answered " + got + ", due is " + want);
        }
    }

    static void due(String call, boolean got, boolean want) {
        due(call, got ? 1 : 0, want ? 1 : 0);
    }

    /** Ends a test: with exit code 1 if an answer was not due. */
    static void finish() {
        System.exit(wrong == 0 ? 0 : 1);
    }

    /** Brings a text to the TAPE, in numbers of four bytes, and cuts off what fills the last twenty. */
    static boolean tape(FlatHouse x, String text) {
        int many = text.length();
        boolean all = true;
        for (int at = 0; at < many; at += 20) {
            all &= x.feed(four(text, at), four(text, at + 4), four(text, at + 8), four(text, at + 12), four(text, at + 16));
        }
        return all && x.end(many);
    }

    private static int four(String text, int at) {
        int number = 0;
        for (int i = at; i < at + 4; i++) {
            number = number << 8 | (i < text.length() ? text.charAt(i) & 255 : 0);
        }
        return number;
    }

    /** A new house in which this program stands. */
    static FlatHouse with(String text) {
        FlatHouse x = new FlatHouse();
        due("tape(" + text + ")", tape(x, text), true);
        int fault = x.program();
        if (fault != 0) {
            due("program() of " + text + " at " + x.fault(1), fault, 0);
        }
        return x;
    }

    /** That the text has this FAULT at this place. */
    static void faulty(String text, int fault, int place) {
        FlatHouse x = new FlatHouse();
        due("tape(" + text + ")", tape(x, text), true);
        due("program() of " + text, x.program(), fault);
        due("fault(0) of " + text, x.fault(0), fault);
        due("fault(1) of " + text, x.fault(1), place);
        for (int what = 0; what <= 3; what++) {
            due("count(" + what + ") of " + text, x.count(what), 0);
        }
    }

    /** That the text has this FAULT where the mark @ stands in it (the mark is not of the text). */
    static void faulty(int fault, String marked) {
        int at = marked.indexOf('@');
        faulty(marked.substring(0, at) + marked.substring(at + 1), fault, at);
    }

    /** That the text is a program. */
    static void sound(String text) {
        FlatHouse x = with(text);
        due("fault(0) of " + text, x.fault(0), 0);
        due("fault(1) of " + text, x.fault(1), FlatHouse.NONE);
    }

    /** Runs the last FUN of a program. */
    static int go(FlatHouse x, int seed, int steps) {
        return x.run(x.count(2) - 1, seed, steps);
    }

    /** That a program, whose last FUN is run, ENDS and puts out these. */
    static FlatHouse puts(String text, long... wanted) {
        FlatHouse x = with(text);
        due("run of " + text, go(x, 1, 4000), 0);
        due("thread(0, 0) of " + text, x.thread(0, 0), 2);
        due("result(3) of " + text, x.result(3), wanted.length);
        for (int i = 0; i < wanted.length; i++) {
            due("output(" + i + ") of " + text, x.output(i), wanted[i]);
        }
        return x;
    }

    /** As puts, of the STATEMENTS of a FUN behind CLASSES, GLOBALS and FUNS. */
    static FlatHouse puts(String ahead, String statements, long... wanted) {
        return puts(ahead + " fun main() { " + statements + " }", wanted);
    }

    /** That thread 0 FAILS so. */
    static FlatHouse fails(String ahead, String statements, int failure) {
        String text = ahead + " fun main() { " + statements + " }";
        FlatHouse x = with(text);
        due("run of " + text, go(x, 1, 4000), 0);
        due("thread(0, 0) of " + text, x.thread(0, 0), 3);
        due("thread(0, 1) of " + text, x.thread(0, 1), failure);
        due("thread(0, 2) of " + text, x.thread(0, 2), 0);
        return x;
    }
}
