/** Promises 1 to 6: a new object, feed, end, program, fault, count. */
public final class TapeTest {
    public static void main(String[] args) {
        newObject();
        feeding();
        ending();
        programs();
        counts();
        words();
        cutWords();
        House.finish();
    }

    private static void newObject() {
        FlatHouse x = new FlatHouse();
        House.due("NONE", FlatHouse.NONE, -1);
        House.due("end(0)", x.end(0), true);
        House.due("end(1)", x.end(1), false);
        House.due("fault(0)", x.fault(0), 0);
        House.due("fault(1)", x.fault(1), -1);
        House.due("fault(2)", x.fault(2), -1);
        House.due("fault(-1)", x.fault(-1), -1);
        for (int what = 0; what <= 3; what++) {
            House.due("count(" + what + ")", x.count(what), 0);
        }
        House.due("count(4)", x.count(4), -1);
        House.due("count(-1)", x.count(-1), -1);
        House.due("type(0, 0)", x.type(0, 0), -1);
        House.due("slot(0, 0, 0)", x.slot(0, 0, 0), -1);
        House.due("slot(-1, 0, 0)", x.slot(-1, 0, 0), -1);
        House.due("element(5, 1)", x.element(5, 1), -1);
        House.due("fun(0, 0)", x.fun(0, 0), -1);
        House.due("result(0)", x.result(0), -1);
        House.due("output(0)", x.output(0), 0);
        House.due("thread(0, 0)", x.thread(0, 0), -1);
        House.due("image()", x.image(), -1);
        House.due("byteAt(0)", x.byteAt(0), -1);
    }

    private static void feeding() {
        FlatHouse x = new FlatHouse();
        for (int i = 0; i < 150; i++) {
            House.due("feed " + i, x.feed(0x20202020, 0x20202020, 0x20202020, 0x20202020, 0x20202020), true);
        }
        House.due("feed with 3000", x.feed(0, 0, 0, 0, 0), false);
        House.due("end(3000)", x.end(3000), true);
        House.due("end(3001)", x.end(3001), false);
        House.due("end(2981)", x.end(2981), true);
        House.due("feed with 2981", x.feed(0, 0, 0, 0, 0), false);
        House.due("end(2981) again", x.end(2981), true);
        House.due("end(2982)", x.end(2982), false);
        House.due("end(2980)", x.end(2980), true);
        // " fun f(){} " in the order of the bytes, highest first.
        House.due("feed with 2980", x.feed(0x2066756e, 0x20662829, 0x7b7d2020, 0x20202020, 0x20202020), true);
        House.due("program()", x.program(), 0);
        House.due("count(3)", x.count(3), 6);
        House.due("end(1) behind program()", x.end(1), false);
    }

    private static void ending() {
        FlatHouse x = new FlatHouse();
        House.tape(x, "fun f ( ) { } nonsense");
        House.due("end(-1)", x.end(-1), false);
        House.due("end(23)", x.end(23), false);
        House.due("end(13)", x.end(13), true);
        House.due("end(14)", x.end(14), false);
        House.due("program()", x.program(), 0);
        House.due("end(0)", x.end(0), true);
    }

    private static void programs() {
        FlatHouse x = House.with("fun f ( ) { out 1 ; }");
        House.due("run", x.run(0, 1, 10), 0);
        House.due("image()", x.image(), 8);
        House.due("program() of nothing", x.program(), 1);
        House.due("fault(0)", x.fault(0), 1);
        House.due("fault(1)", x.fault(1), 0);
        House.due("count(2)", x.count(2), 0);
        House.due("result(0) behind program()", x.result(0), -1);
        House.due("output(0) behind program()", x.output(0), 0);
        House.due("thread(0, 0) behind program()", x.thread(0, 0), -1);
        House.due("byteAt(0) behind program()", x.byteAt(0), -1);
        House.tape(x, "fun g(){}fun h(){}");
        House.due("program()", x.program(), 0);
        House.due("fault(0)", x.fault(0), 0);
        House.due("fault(1)", x.fault(1), -1);
        House.due("count(2)", x.count(2), 2);
        House.due("result(0) ahead of a run", x.result(0), -1);
        House.tape(x, "fun g(){}fun");
        House.due("program() again", x.program(), 1);
        House.due("fault(1)", x.fault(1), 12);
        House.due("count(2)", x.count(2), 0);
        House.due("fun(0, 0)", x.fun(0, 0), -1);
    }

    private static void counts() {
        FlatHouse x = House.with("class A { } value B { int x ; } global int g ; global B h ; fun f ( ) { } fun k ( ) { }\n\n fun m(){}");
        House.due("count(0)", x.count(0), 2);
        House.due("count(1)", x.count(1), 2);
        House.due("count(2)", x.count(2), 3);
        House.due("count(3)", x.count(3), 4 + 7 + 4 + 4 + 6 + 6 + 6);
        House.due("count(4)", x.count(4), -1);
    }

    /** What is behind the TEXT's end is not of its last word, though the TAPE had it. */
    private static void cutWords() {
        cutAt("fun f(){int a=", "=1;}", 1, 14);
        cutAt("fun f(){int a=1=", "=1;}", 1, 15);
        cutAt("fun f(){int a=1==", "=1;}", 1, 17);
        cutAt("fun f(){float a=#1234567", "89;}", 1, 24);
        cutAt("fun f(){int a=214748364", "70;}", 1, 23);
        cutAt("fun f(){out abcdefgh", "i;}", 3, 12);
        cutAt("fun f(){whil", "e 1{}}", 3, 8);
    }

    private static void cutAt(String text, String rest, int fault, int place) {
        FlatHouse x = new FlatHouse();
        House.tape(x, text + rest);
        House.due("end of " + text, x.end(text.length()), true);
        House.due("program() of " + text, x.program(), fault);
        House.due("fault(1) of " + text, x.fault(1), place);
    }

    private static void words() {
        House.faulty("", 1, 0);
        House.faulty(" \n ", 1, 3);
        House.faulty("fun", 1, 3);
        House.faulty("fun  ", 1, 5);
        House.faulty(1, "@nine ( ) { }");
        House.faulty(1, "fun f ( ) { } @?");
        House.faulty(1, "fun f ( ) @\t{ }");
        House.faulty(1, "fun f ( ) { @\u0080 }");
        House.faulty(1, "fun f ( ) { @\0 }");
        House.faulty(1, "fun @abcdefghi ( ) { }");
        House.sound("fun abcdefgh ( ) { }");
        House.sound("fun Ab1 ( ) { int a = 2147483647 ; int b = 0002147483647 ; }");
        House.faulty(1, "fun f ( ) { int a = @2147483648 ; }");
        House.faulty(1, "fun f ( ) { int a = @99999999999999999999999999 ; }");
        House.sound("fun f ( ) { float a = #0 ; float b = #89abcdef ; }");
        House.faulty(1, "fun f ( ) { float a = @#089abcdef ; }");
        House.faulty(1, "fun f ( ) { float a = @# 0 ; }");
        House.faulty(1, "fun f ( ) { float a = @#A ; }");
        House.faulty(1, "fun f ( ) { float a = #f@g ; }");
        House.faulty(1, "fun f ( ) { int a = 1@b ; }");
        House.faulty(1, "fun @class ( ) { }");
        House.faulty(1, "fun @1 ( ) { }");
        House.faulty(1, "fun f ( ) { int a = 1 == 1 @== 1 ; }");
        House.faulty(1, "fun f ( ) { int a = 1 @= = 1 ; }");
        House.faulty(1, "fun f ( ) { int a @== 1 ; }");
    }
}
