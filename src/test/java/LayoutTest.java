/** Promises 7 to 11: policy, type, slot, element, fun. */
public final class LayoutTest {
    /** V: 5 bytes filled to 8; S: 2 bytes; L: 16; Z: none; R: a RING; M: others' SLOTS in a value. */
    private static final String KINDS = "value V { byte a ; int b ; } value S { byte a ; byte b ; } value L { byte a ; long b ; } "
            + "value Z { } value R { R up ; byte b ; } value M { byte k ; V ! v ; S s ; R r ; } "
            + "class C { V ! v ; V w ; L ! l ; byte b ; } class D { S s ; Z z ; Z ! y ; M m ; } "
            + "global byte g ; global V v ; global S s ; global L l ; global V ! [ ] a ; global long n ; "
            + "fun f ( ) { } fun h ( V v , V ! w , R r ) M { } fun k ( int a , L ! [ ] b , Z ! z ) V ! [ ] { } fun q ( Z z ) long { } ";

    public static void main(String[] args) {
        wrongPolicies();
        references();
        flatAndMarked();
        most();
        bits();
        guarded();
        cells();
        words();
        elements();
        elementsWithoutProgram();
        wrongCalls();
        inOrder();
        House.finish();
    }

    private static FlatHouse laid(int most, int bits, int parts) {
        FlatHouse x = House.with(KINDS);
        House.due("policy", x.policy(most, bits, parts), true);
        return x;
    }

    private static void slot(FlatHouse x, int c, int f, int place, int bytes, int how, int mark) {
        String of = "slot(" + c + ", " + f + ", ";
        House.due(of + "0)", x.slot(c, f, 0), place);
        House.due(of + "1)", x.slot(c, f, 1), bytes);
        House.due(of + "2)", x.slot(c, f, 2), how);
        House.due(of + "3)", x.slot(c, f, 3), mark);
    }

    private static void payload(FlatHouse x, int c, int bytes, int alignment) {
        House.due("type(" + c + ", 2)", x.type(c, 2), bytes);
        House.due("type(" + c + ", 3)", x.type(c, 3), alignment);
    }

    private static void element(FlatHouse x, int code, int bytes, int how, int mark) {
        House.due("element(" + code + ", 1)", x.element(code, 1), bytes);
        House.due("element(" + code + ", 2)", x.element(code, 2), how);
        House.due("element(" + code + ", 3)", x.element(code, 3), mark);
    }

    private static void wrongPolicies() {
        FlatHouse x = House.with(KINDS);
        House.due("run", x.run(0, 0, 1), 0);
        House.due("image()", x.image() > 0, true);
        int[][] wrong = {{-1, 0, 0}, {33, 0, 0}, {0, -1, 0}, {0, 8, 0}, {0, 0, -1}, {0, 0, 17}};
        for (int[] p : wrong) {
            House.due("policy(" + p[0] + ", " + p[1] + ", " + p[2] + ")", x.policy(p[0], p[1], p[2]), false);
        }
        House.due("slot(6, 0, 2)", x.slot(6, 0, 2), 1);
        House.due("result(0)", x.result(0), 0);
        House.due("byteAt(0)", x.byteAt(0), 0);
        House.due("policy(32, 7, 16)", x.policy(32, 7, 16), true);
        House.due("slot(6, 0, 2)", x.slot(6, 0, 2), 2);
        House.due("result(0)", x.result(0), -1);
        House.due("thread(0, 0)", x.thread(0, 0), -1);
        House.due("byteAt(0)", x.byteAt(0), -1);
        House.due("image()", x.image(), -1);
        House.due("count(0)", x.count(0), 8);
        x = new FlatHouse();
        House.due("policy ahead of a program", x.policy(32, 7, 16), true);
        House.tape(x, KINDS);
        House.due("program()", x.program(), 0);
        House.due("slot(6, 0, 2)", x.slot(6, 0, 2), 2);
    }

    private static void references() {
        FlatHouse x = House.with(KINDS);
        for (int c = 0; c < 8; c++) {
            House.due("type(" + c + ", 0)", x.type(c, 0), c < 6 ? 1 : 0);
        }
        House.due("type(0, 1)", x.type(0, 1), 2);
        House.due("type(3, 1)", x.type(3, 1), 0);
        House.due("type(5, 1)", x.type(5, 1), 4);
        payload(x, 0, 8, 4);
        slot(x, 0, 0, 4, 1, 0, -1);
        slot(x, 0, 1, 0, 4, 0, -1);
        payload(x, 1, 2, 1);
        payload(x, 2, 16, 8);
        slot(x, 2, 0, 8, 1, 0, -1);
        slot(x, 2, 1, 0, 8, 0, -1);
        payload(x, 3, 0, 1);
        payload(x, 4, 8, 4);
        slot(x, 4, 0, 0, 4, 1, -1);
        payload(x, 5, 16, 4);
        slot(x, 5, 0, 12, 1, 0, -1);
        slot(x, 5, 1, 0, 4, 1, -1);
        slot(x, 5, 2, 4, 4, 1, -1);
        slot(x, 5, 3, 8, 4, 1, -1);
        slot(x, 6, 2, 8, 4, 1, -1);
        slot(x, -1, 0, 24, 1, 0, -1);
        slot(x, -1, 1, 8, 4, 1, -1);
        slot(x, -1, 4, 20, 4, 1, -1);
        slot(x, -1, 5, 0, 8, 0, -1);
    }

    private static void flatAndMarked() {
        FlatHouse x = laid(32, 7, 0);
        slot(x, 5, 0, 12, 1, 0, -1);
        slot(x, 5, 1, 0, 8, 2, -1);
        slot(x, 5, 2, 13, 3, 2, 2);
        slot(x, 5, 3, 8, 4, 1, -1);
        payload(x, 5, 16, 4);
        slot(x, 6, 0, 16, 8, 2, -1);
        slot(x, 6, 1, 24, 12, 3, 8);
        slot(x, 6, 2, 0, 16, 3, -1);
        slot(x, 6, 3, 36, 1, 0, -1);
        payload(x, 6, 40, 8);
        slot(x, 7, 0, 24, 3, 2, 2);
        slot(x, 7, 1, 27, 1, 2, 0);
        slot(x, 7, 2, 0, 4, 1, -1);
        slot(x, 7, 3, 4, 20, 3, 16);
        payload(x, 7, 28, 4);
    }

    /** D's m has 20 bytes when it is FLAT, s 3, z 1. */
    private static void most() {
        FlatHouse x = laid(19, 7, 0);
        slot(x, 7, 3, 4, 4, 1, -1);
        slot(x, 7, 2, 0, 4, 1, -1);
        x = laid(20, 7, 0);
        House.due("slot(7, 3, 2)", x.slot(7, 3, 2), 3);
        x = laid(1, 7, 0);
        slot(x, 7, 1, 12, 1, 2, 0);
        slot(x, 7, 2, 4, 4, 1, -1);
        slot(x, 7, 0, 0, 4, 1, -1);
        x = laid(2, 7, 0);
        House.due("slot(7, 0, 2)", x.slot(7, 0, 2), 1);
        House.due("element(8, 2)", x.element(8, 2), 2);
        x = laid(3, 7, 0);
        House.due("slot(7, 0, 2)", x.slot(7, 0, 2), 2);
        x = laid(7, 7, 0);
        House.due("slot(6, 0, 2)", x.slot(6, 0, 2), 1);
        x = laid(8, 7, 0);
        House.due("slot(6, 0, 2)", x.slot(6, 0, 2), 2);
        x = laid(0, 7, 0);
        House.due("slot(7, 1, 2)", x.slot(7, 1, 2), 1);
    }

    private static void bits() {
        FlatHouse x = laid(32, 0, 0);
        slot(x, 5, 1, 0, 8, 2, -1);
        House.due("slot(5, 2, 2) without BIT 1", x.slot(5, 2, 2), 1);
        House.due("slot(6, 0, 2) with !", x.slot(6, 0, 2), 2);
        House.due("slot(6, 1, 2) without BIT 1", x.slot(6, 1, 2), 1);
        House.due("slot(6, 2, 2) without BIT 4", x.slot(6, 2, 2), 1);
        House.due("element(6, 2) without BIT 2", x.element(6, 2), 1);
        x = laid(32, 1, 0);
        House.due("slot(5, 2, 2) with BIT 1", x.slot(5, 2, 2), 2);
        House.due("slot(6, 1, 2) with BIT 1 alone", x.slot(6, 1, 2), 1);
        House.due("slot(-1, 2, 2)", x.slot(-1, 2, 2), 2);
        House.due("slot(-1, 1, 2)", x.slot(-1, 1, 2), 1);
        House.due("element(7, 2)", x.element(7, 2), 1);
        x = laid(32, 2, 0);
        House.due("element(6, 2) with BIT 2", x.element(6, 2), 2);
        House.due("element(5, 2) with BIT 2 alone", x.element(5, 2), 1);
        House.due("element(10, 2) with BIT 2 alone", x.element(10, 2), 1);
        x = laid(32, 4, 0);
        House.due("slot(6, 2, 2) with BIT 4", x.slot(6, 2, 2), 3);
        House.due("slot(6, 1, 2) with BIT 4 alone", x.slot(6, 1, 2), 1);
        House.due("element(10, 2) with BIT 4 alone", x.element(10, 2), 1);
        x = laid(32, 5, 0);
        slot(x, -1, 3, 0, 24, 3, 16);
        slot(x, -1, 1, 32, 12, 3, 8);
        x = laid(32, 6, 0);
        element(x, 10, 16, 3, -1);
        x = laid(32, 3, 0);
        element(x, 7, 3, 2, 2);
        element(x, 5, 4, 1, -1);
    }

    /** In a FIELD of a value nothing is GUARDED, and BIT 4 is not asked for. */
    private static void guarded() {
        FlatHouse x = House.with("value L { long a ; long b ; } value K { L ! l ; } value P { L l ; } class C { L ! l ; } global L l ; fun f ( ) { }");
        x.policy(32, 1, 0);
        slot(x, 1, 0, 0, 16, 2, -1);
        slot(x, 2, 0, 0, 24, 2, 16);
        slot(x, 3, 0, 0, 4, 1, -1);
        slot(x, -1, 0, 0, 4, 1, -1);
        x.policy(32, 5, 0);
        slot(x, 1, 0, 0, 16, 2, -1);
        slot(x, 3, 0, 0, 16, 3, -1);
        slot(x, -1, 0, 0, 24, 3, 16);
        x.policy(16, 0, 0);
        slot(x, 1, 0, 0, 16, 2, -1);
        x.policy(15, 0, 0);
        slot(x, 1, 0, 0, 4, 1, -1);
        payload(x, 1, 4, 4);
    }

    private static void cells() {
        FlatHouse x = laid(0, 0, 0);
        int[] cells = {2, 2, 2, 0, 0, 1 + 2 + 3 + 1, 0, 0};
        for (int parts = 0; parts <= 16; parts++) {
            x.policy(0, 0, parts);
            for (int c = 0; c < 8; c++) {
                House.due("type(" + c + ", 4)", x.type(c, 4), cells[c]);
                boolean goes = c < 6 && c != 4 && cells[c] <= parts;
                House.due("type(" + c + ", 5) with " + parts, x.type(c, 5), goes ? 1 : 0);
            }
        }
        House.due("type(0, 6)", x.type(0, 6), -1);
        x = House.with("value A { int a ; int [ ] b ; } value B { A a ; A ! b ; A [ ] c ; any d ; } value E { B b ; B ! c ; } fun f ( ) { }");
        House.due("type(1, 4)", x.type(1, 4), 3 + 2 + 1 + 1);
        House.due("type(2, 4)", x.type(2, 4), 8 + 7);
    }

    private static void words() {
        FlatHouse x = laid(0, 0, 0);
        House.due("fun(0, 0)", x.fun(0, 0), 0);
        House.due("fun(0, 1)", x.fun(0, 1), -1);
        House.due("fun(0, 2)", x.fun(0, 2), 0);
        House.due("fun(1, 0)", x.fun(1, 0), 3);
        House.due("fun(1, 1)", x.fun(1, 1), 15);
        House.due("fun(1, 2)", x.fun(1, 2), 4);
        House.due("fun(2, 0)", x.fun(2, 0), 3);
        House.due("fun(2, 1)", x.fun(2, 1), 106);
        House.due("fun(2, 2)", x.fun(2, 2), 1 + 1 + 0 + 1);
        House.due("fun(3, 1)", x.fun(3, 1), 2);
        House.due("fun(3, 2)", x.fun(3, 2), 1 + 1);
        x.policy(0, 0, 2);
        House.due("fun(1, 2)", x.fun(1, 2), 3 + 2 + 1 + 1);
        x.policy(0, 0, 7);
        House.due("fun(1, 2)", x.fun(1, 2), 3 + 2 + 1 + 8);
        House.due("fun(2, 2)", x.fun(2, 2), 3);
        House.due("fun(1, 3)", x.fun(1, 3), -1);
        House.due("fun(1, -1)", x.fun(1, -1), -1);
        House.due("fun(4, 0)", x.fun(4, 0), -1);
        House.due("fun(-1, 0)", x.fun(-1, 0), -1);
        x = House.with("value V { int a ; int b ; } fun f ( V v , V ! w ) V { return w ; } fun main ( ) { V v = f ( null , new V ( 1 , 2 ) ) ; f ( v , v ) ; spawn f ( v , v ) ; try { f ( v , null as V ) ; } catch e { } }");
        House.due("run", x.run(1, 0, 100), 0);
        House.due("result(7)", x.result(7), 9);
        x.policy(0, 0, 2);
        House.due("run", x.run(1, 0, 100), 0);
        House.due("result(7)", x.result(7), 3 * (3 + 2 + 3));
    }

    private static void elements() {
        FlatHouse x = laid(32, 7, 0);
        element(x, 0, 1, 0, -1);
        element(x, 1, 4, 0, -1);
        element(x, 2, 8, 0, -1);
        element(x, 3, 4, 0, -1);
        element(x, 4, 4, 1, -1);
        element(x, 5, 12, 3, 8);
        element(x, 6, 8, 2, -1);
        element(x, 7, 3, 2, 2);
        element(x, 8, 2, 2, -1);
        element(x, 9, 24, 3, 16);
        element(x, 10, 16, 3, -1);
        element(x, 11, 1, 2, 0);
        element(x, 12, 4, 1, -1);
        element(x, 13, 4, 1, -1);
        element(x, 14, 4, 1, -1);
        element(x, 17, 4, 1, -1);
        element(x, 18, -1, -1, -1);
        element(x, 19, 4, 1, -1);
        element(x, 20, -1, -1, -1);
        element(x, 21, -1, -1, -1);
        element(x, 100, -1, -1, -1);
        element(x, -1, -1, -1, -1);
        House.due("element(1, 0)", x.element(1, 0), -1);
        House.due("element(1, 4)", x.element(1, 4), -1);
    }

    private static void elementsWithoutProgram() {
        FlatHouse x = new FlatHouse();
        element(x, 2, 8, 0, -1);
        element(x, 4, 4, 1, -1);
        element(x, 5, -1, -1, -1);
    }

    private static void wrongCalls() {
        FlatHouse x = House.with(KINDS);
        House.due("type(8, 0)", x.type(8, 0), -1);
        House.due("type(-1, 2)", x.type(-1, 2), -1);
        House.due("type(0, -1)", x.type(0, -1), -1);
        House.due("slot(8, 0, 0)", x.slot(8, 0, 0), -1);
        House.due("slot(-2, 0, 0)", x.slot(-2, 0, 0), -1);
        House.due("slot(0, 2, 0)", x.slot(0, 2, 0), -1);
        House.due("slot(0, -1, 0)", x.slot(0, -1, 0), -1);
        House.due("slot(-1, 6, 0)", x.slot(-1, 6, 0), -1);
        House.due("slot(-1, -1, 0)", x.slot(-1, -1, 0), -1);
        House.due("slot(0, 0, 4)", x.slot(0, 0, 4), -1);
        House.due("slot(0, 0, -1)", x.slot(0, 0, -1), -1);
    }

    /** SLOTS of one alignment keep their order; a byte does not go where a greater one left room. */
    private static void inOrder() {
        FlatHouse x = House.with("class C { byte a ; int b ; byte c ; any d ; } class E { int a ; long b ; byte c ; int d ; } class O { } fun f ( ) { }");
        slot(x, 0, 0, 8, 1, 0, -1);
        slot(x, 0, 1, 0, 4, 0, -1);
        slot(x, 0, 2, 9, 1, 0, -1);
        slot(x, 0, 3, 4, 4, 1, -1);
        payload(x, 0, 12, 4);
        slot(x, 1, 0, 8, 4, 0, -1);
        slot(x, 1, 1, 0, 8, 0, -1);
        slot(x, 1, 2, 16, 1, 0, -1);
        slot(x, 1, 3, 12, 4, 0, -1);
        payload(x, 1, 24, 8);
        payload(x, 2, 0, 1);
    }
}
