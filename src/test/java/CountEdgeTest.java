/** Terms, section 1: how many there may be of each, at the number itself, one below and one above. */
public final class CountEdgeTest {
    public static void main(String[] args) {
        classes();
        fields();
        globals();
        funs();
        parameters();
        localsBehindParameters();
        localsThatAreOver();
        argumentsAndFields();
        nestedEs();
        nestedBlocks();
        nestedBoth();
        sideBySide();
        House.finish();
    }

    /** The part so many times, with a number for each ? in it and , (or nothing) between. */
    private static String many(int many, String part, String between) {
        StringBuilder all = new StringBuilder();
        for (int i = 0; i < many; i++) {
            all.append(i == 0 ? "" : between).append(part.replace("?", Integer.toString(i)));
        }
        return all.toString();
    }

    private static String many(int many, String part) {
        return many(many, part, "");
    }

    private static FlatHouse counted(String text, int what, int wanted) {
        FlatHouse x = House.with(text);
        House.due("count(" + what + ") of " + text, x.count(what), wanted);
        return x;
    }

    /** "At most 8 CLASSES", those with class and with value together; one more is told at its first word. */
    private static void classes() {
        for (int n = 0; n <= 8; n++) {
            counted(many(n, "class A?{int x;}") + "fun f(){}", 0, n);
            counted(many(n, "value A?{int x;}") + "fun f(){}", 0, n);
            counted(many(n, "class A?{}") + many(8 - n, "value B?{}") + "fun f(){}", 0, 8);
            House.faulty(4, many(n, "class A?{}") + many(8 - n, "value B?{}") + "@class C{}fun f(){}");
            House.faulty(4, many(n, "value A?{}") + many(8 - n, "class B?{}") + "@value A0{}fun f(){}");
        }
        House.faulty(4, many(8, "class A?{}") + "@value");
        House.faulty(4, many(8, "class A?{}") + "@class 5");
        House.faulty(1, many(7, "class A?{}") + "class @5");
        House.faulty(2, many(7, "class A?{}") + "class @A6{}");
        // The eighth is there as the first one is.
        FlatHouse x = House.with(many(7, "class A?{}") + "value V{int a;V![]b;}global V g;fun f(V! v)V![]{}");
        House.due("type(7, 0)", x.type(7, 0), 1);
        House.due("type(7, 1)", x.type(7, 1), 2);
        House.due("type(8, 0)", x.type(8, 0), -1);
        House.due("element(19, 2)", x.element(19, 2), 1);
        House.due("element(20, 2)", x.element(20, 2), 1);
        House.due("element(21, 2)", x.element(21, 2), -1);
        House.due("fun(0, 1)", x.fun(0, 1), 120);
    }

    /** "4 FIELDS of one"; one more is told at its NAME. */
    private static void fields() {
        for (String kind : new String[] {"class", "value"}) {
            for (int n = 0; n <= 4; n++) {
                FlatHouse x = House.with(kind + " A{" + many(n, "int x?;") + "}fun f(){}");
                House.due("type(0, 1)", x.type(0, 1), n);
                House.due("slot(0, n - 1, 0)", x.slot(0, n - 1, 0), n == 0 ? -1 : 4 * (n - 1));
                House.due("slot(0, n, 0)", x.slot(0, n, 0), -1);
            }
            House.faulty(4, kind + " A{" + many(4, "int x?;") + "int @x4;}fun f(){}");
            House.faulty(4, kind + " A{" + many(4, "int x?;") + "int @x0;}fun f(){}");
            House.faulty(4, kind + " A{" + many(4, "int x?;") + "A[]@y");
            House.faulty(1, kind + " A{" + many(4, "int x?;") + "int @;}fun f(){}");
            House.faulty(3, kind + " A{" + many(4, "int x?;") + "@B x4;}fun f(){}");
            House.faulty(5, kind + " A{" + many(4, "int x?;") + "int@! x4;}fun f(){}");
            House.faulty(2, kind + " A{" + many(3, "int x?;") + "int @x0;}fun f(){}");
        }
        counted("class A{" + many(4, "int x?;") + "}class B{" + many(4, "int x?;") + "}fun f(){}", 0, 2);
    }

    /** "6 GLOBALS"; one more is told at its first word. */
    private static void globals() {
        for (int n = 0; n <= 6; n++) {
            FlatHouse x = counted(many(n, "global int g?;") + "fun f(){}", 1, n);
            House.due("slot(-1, n - 1, 0)", x.slot(-1, n - 1, 0), n == 0 ? -1 : 4 * (n - 1));
            House.due("slot(-1, n, 0)", x.slot(-1, n, 0), -1);
        }
        House.faulty(4, many(6, "global int g?;") + "@global int g6;fun f(){}");
        House.faulty(4, many(6, "global int g?;") + "@global int g0;fun f(){}");
        House.faulty(4, many(6, "global int g?;") + "@global");
        House.faulty(2, many(5, "global int g?;") + "global int @g0;fun f(){}");
        House.faulty(1, many(5, "global int g?;") + "global @;fun f(){}");
    }

    /** "FUNS (one at least)", "10 FUNS"; one more is told at its first word. */
    private static void funs() {
        House.faulty("class A{}global int g;", 1, 22);
        for (int n = 1; n <= 10; n++) {
            FlatHouse x = counted(many(n, "fun f?(){out ?;}"), 2, n);
            House.due("run of the last", x.run(n - 1, 1, 9), 0);
            House.due("output(0)", x.output(0), n - 1);
            House.due("fun(n, 0)", x.fun(n, 0), -1);
        }
        House.faulty(4, many(10, "fun f?(){}") + "@fun f10(){}");
        House.faulty(4, many(10, "fun f?(){}") + "@fun f0(){}");
        House.faulty(4, many(10, "fun f?(){}") + "@fun");
        House.faulty(2, many(9, "fun f?(){}") + "fun @f0(){}");
        House.faulty(1, many(10, "fun f?(){}") + "@class A{}");
    }

    /** "TYPE NAME, with , between, three at most"; one more is told at its NAME. */
    private static void parameters() {
        for (int n = 0; n <= 3; n++) {
            FlatHouse x = House.with("fun f(" + many(n, "int p?", ",") + "){}");
            House.due("fun(0, 0)", x.fun(0, 0), n);
            House.due("fun(0, 2)", x.fun(0, 2), n);
        }
        House.faulty(4, "fun f(" + many(3, "int p?", ",") + ",int @p3){}");
        House.faulty(4, "fun f(" + many(3, "int p?", ",") + ",int @p0){}");
        House.faulty(4, "fun f(" + many(3, "int p?", ",") + ",int @p3");
        House.faulty(1, "fun f(" + many(3, "int p?", ",") + ",int @){}");
        House.faulty(1, "fun f(" + many(3, "int p?", ",") + ",@){}");
        House.faulty(5, "fun f(" + many(3, "int p?", ",") + ",int@! p3){}");
        House.faulty(2, "fun f(int p0,int p1,int @p0){}");
        // Three of each of ten FUNS.
        StringBuilder calls = new StringBuilder();
        for (int k = 0; k < 9; k++) {
            calls.append("out f").append(k).append("(").append(k).append(",").append(-k).append(" as long,null);");
        }
        FlatHouse x = House.with(many(9, "fun f?(byte a,long b,any c)int{return a*?;}") + "fun f9(int a,any[]b,float c){" + calls + "}");
        for (int k = 0; k < 10; k++) {
            House.due("fun(" + k + ", 0)", x.fun(k, 0), 3);
            House.due("fun(" + k + ", 2)", x.fun(k, 2), k < 9 ? 4 : 3);
        }
        x = House.puts(many(9, "fun f?(int a,long b,byte c)long{if c{return b;}return(a*?)as long;}"), calls.toString().replace("null", "256"), 0, 1, 4, 9, 16, 25, 36, 49, 64);
        House.puts(many(9, "fun f?(int a,long b,byte c)long{if c{return b;}return(a*?)as long;}"), calls.toString().replace("null", "255"), 0, -1, -2, -3, -4, -5, -6, -7, -8);
    }

    /** "8 LOCALS that are there at once (parameters, too)"; one more is told at its NAME. */
    private static void localsBehindParameters() {
        for (int p = 0; p <= 3; p++) {
            String head = "fun f(" + many(p, "int p?", ",") + "){";
            for (int n = 7 - p; n <= 8 - p; n++) {
                House.sound(head + many(n, "int a?=?;") + "}");
            }
            String full = head + many(8 - p, "int a?=?;");
            House.faulty(4, full + "int @b=1;}");
            House.faulty(4, full + "int @a0=1;}");
            House.faulty(4, full + "if 1{any @b=null;}}");
            House.faulty(4, full + "try{}catch @e{}}");
            House.faulty(4, full + "try{int @b");
            House.faulty(1, full + "int @=1;}");
            House.sound(full + "if 1{}while 0{}lock null{}out 1;}");
        }
    }

    private static void localsThatAreOver() {
        String seven = many(7, "int a?=?;");
        House.sound("fun f(){" + seven + "if 1{int b=1;}else{int b=2;}while 0{int b=3;}lock null{int b=4;}try{int b=5;}catch b{}int b=6;}");
        House.faulty(4, "fun f(){" + seven + "if 1{int b=1;int @c=1;}}");
        House.faulty(4, "fun f(){" + seven + "if 1{}else{int b=1;int @c=1;}}");
        House.faulty(4, "fun f(){" + seven + "while 0{int b=1;int @c=1;}}");
        House.faulty(4, "fun f(){" + seven + "try{int b=1;int @c=1;}catch e{}}");
        House.faulty(4, "fun f(){" + seven + "try{}catch e{int @c=1;}}");
        House.sound("fun f(){" + many(6, "int a?=?;") + "try{}catch e{int c=1;}}");
        House.sound("fun f(){" + seven + "int b=1;}fun g(int x,int y,int z){" + many(5, "int a?=?;") + "}fun h(){" + seven + "int b=1;}");
        // All eight are kept apart.
        StringBuilder puts = new StringBuilder();
        for (int i = 0; i < 7; i++) {
            puts.append("out a").append(i).append("; ");
        }
        House.puts("", seven + "int b=70; a3=30; " + puts + "out b;", 0, 1, 2, 30, 4, 5, 6, 70);
        // CALLS between, with a RESULT and without, leave them alone.
        House.puts("fun n(int a){a=99;}fun r(int a,int b)int{a=98;return b;}",
                seven + "int b=70; n(1);n(2);r(3,4);n(r(5,6));spawn n(7);if b{n(r(8,9));} a0=r(7,8)+r(9,10); " + puts + "out b;", 18, 1, 2, 3, 4, 5, 6, 70);
    }

    /** A wrong number of Es, one too few and one too many, at the NAME. */
    private static void argumentsAndFields() {
        for (int n = 0; n <= 4; n++) {
            String kinds = "class A{" + many(n, "int x?;") + "}value V{" + many(n, "int x?;") + "}";
            for (int given = 0; given <= 6; given++) {
                for (String c : new String[] {"A", "V"}) {
                    String text = kinds + "fun m(){any a=new @" + c + "(" + many(given, "?", ",") + ");}";
                    if (given == n) {
                        House.sound(text.replace("@", ""));
                    } else {
                        House.faulty(5, text);
                    }
                }
            }
            for (int given = 0; n <= 3 && given <= 5; given++) {
                String ahead = "fun f(" + many(n, "int p?", ",") + ")int{}fun m(){";
                String call = "@f(" + many(given, "?", ",") + ");}";
                for (String s : new String[] {"", "out ", "spawn ", "int a=1+"}) {
                    if (given == n) {
                        House.sound(ahead + s + call.replace("@", ""));
                    } else {
                        House.faulty(5, ahead + s + call);
                    }
                }
            }
        }
    }

    private static String nest(int depth, String open, String in, String close) {
        return open.repeat(depth) + in + close.repeat(depth);
    }

    /**
     * "20 in one another of E, BLOCK": the FUN's BLOCK is the first, the STATEMENT's E the second; so eighteen more
     * may be in that, of each sort in which an E stands within another's words.
     */
    private static void nestedEs() {
        String kinds = "value V{any a;}value I{int n;}fun g(int n)int{}fun f(int i,int[]a,V v){";
        String[][] sorts = {
            {"out ", "(", "1", ")"}, {"out ", "-", "1", ""}, {"out ", "not ", "i", ""}, {"out ", "g(", "i", ")"}, {"out ", "a[", "i", "]"},
            {"out ", "1+(", "2", ")"}, {"out ", "1*(", "2", ")"}, {"out ", "1==(", "2", ")"}, {"any b=", "new V(", "null", ")"},
            {"v=", "v with a(", "v", ")"}, {"out ", "len new int[", "3", "]"}, {"out ", "new I(", "3", ").n"},
            {"g(", "(", "1", ")"}, {"a[", "(", "1", ")"}, {"out ", "-(", "1", ")"},
        };
        for (String[] s : sorts) {
            String behind = s[0].equals("g(") ? ");}" : s[0].equals("a[") ? "]=1;}" : ";}";
            int of = s[1].startsWith("len new") || s[1].equals("-(") ? 2 : 1;
            for (int depth = 17 / of; depth <= 18 / of; depth++) {
                House.sound(kinds + s[0] + nest(depth, s[1], s[2], s[3]) + behind);
            }
            String full = s[1].repeat(18 / of);
            String last = of == 2 ? "(" : s[1];
            House.faulty(4, kinds + s[0] + full + last + "@" + s[2] + (of == 2 ? ")" : s[3]) + s[3].repeat(18 / of) + behind);
            House.faulty(4, kinds + s[0] + full + last + "@zz");
            House.faulty(1, kinds + s[0] + full + last + "@;");
            House.faulty(1, kinds + s[0] + full + last + "@?");
        }
        // Each of the words of a PREFIX counts, of whatever they are.
        House.sound(kinds + "out " + "-not ".repeat(9) + "1;}");
        House.faulty(4, kinds + "out " + "-not ".repeat(9) + "-@1;}");
        House.sound(kinds + "out " + "- ".repeat(17) + "hash null;}");
        House.faulty(4, kinds + "out " + "- ".repeat(18) + "hash @null;}");
        House.sound(kinds + "out " + "- ".repeat(17) + "len a;}");
        House.faulty(4, kinds + "out " + "- ".repeat(18) + "len @a;}");
        // What stands behind an ATOM is within the PREFIX that the ATOM is of.
        House.sound(kinds + "out " + "- ".repeat(17) + "a[1];}");
        House.faulty(4, kinds + "out " + "- ".repeat(18) + "a[@1];}");
        House.sound(kinds + "out " + "- ".repeat(17) + "g(1);}");
        House.faulty(4, kinds + "out " + "- ".repeat(18) + "g(@1);}");
        // Of new TYPE [ E ] ( E ) both are within.
        House.sound(kinds + "any b=" + nest(17, "new V(", "new V![1](v)", ")") + ";}");
        House.faulty(4, kinds + "any b=" + nest(18, "new V(", "new V![@1](v)", ")") + ";}");
    }

    private static void nestedBlocks() {
        String kinds = "class C{}fun g(){}fun f(C c){";
        String[][] sorts = {{"if 1{", "}"}, {"while 1{", "}"}, {"lock c{", "}"}, {"try{", "}catch e{}"}, {"if 1{}else{", "}"}, {"try{}catch e?{", "}"}};
        for (String[] s : sorts) {
            boolean catches = s[0].contains("e?");
            // A catch has a LOCAL, so those in one another are at most seven: the rest are of another sort.
            String outer = catches ? "if 1{".repeat(12) + many(7, s[0]) : s[0].repeat(19);
            String close = catches ? "}".repeat(19) : s[1].repeat(19);
            House.sound(kinds + outer + close + "}");
            House.faulty(4, kinds + outer + "if @1{}" + close + "}");
            House.faulty(4, kinds + outer + "try@{}catch x{}" + close + "}");
            House.faulty(1, kinds + outer + "try@;");
            House.faulty(4, kinds + outer + "out @1;" + close + "}");
            House.sound(kinds + outer + "return;" + close + "}");
            House.faulty(4, kinds + outer + "f(@c);" + close + "}");
            House.sound(kinds + outer + "g();spawn g();" + close + "}");
        }
        // The BLOCK of a catch is as deep as that of its try.
        House.faulty(4, kinds + "if 1{".repeat(18) + "try{}catch e{try@{");
        House.sound(kinds + "if 1{".repeat(18) + "try{}catch e{}" + "}".repeat(19));
        House.faulty(4, kinds + "if 1{".repeat(19) + "try@{}catch e{}");
        House.faulty(4, kinds + "if 1{".repeat(18) + "if 1{}else{if @1{}}");
    }

    private static void nestedBoth() {
        for (int blocks = 0; blocks <= 18; blocks++) {
            String open = "fun f(){" + "if 1{".repeat(blocks);
            int es = 18 - blocks;
            House.sound(open + "out " + nest(es, "(", "1", ")") + ";" + "}".repeat(blocks + 1));
            House.faulty(4, open + "out " + nest(es + 1, "(", "@1", ")") + ";" + "}".repeat(blocks + 1));
            House.faulty(4, open + "out " + "-".repeat(es + 1) + "@1;" + "}".repeat(blocks + 1));
            House.faulty(4, open + "if " + nest(es + 1, "(", "@1", ")") + "{}" + "}".repeat(blocks + 1));
        }
    }

    /** What is not in one another may be as much as the text has room for. */
    private static void sideBySide() {
        House.sound("fun f(){out " + "(1)+".repeat(100) + "1;}");
        House.sound("fun f(){out " + "-1*".repeat(100) + "1;}");
        House.sound("fun f(){" + "if 1{}".repeat(100) + "}");
        House.sound("fun f(){" + "try{}catch e{}".repeat(100) + "}");
        House.sound("fun f(int[]a){out a" + "[0]+a".repeat(100) + "[0];}");
        House.sound("class C{C c;}fun f(C c){c" + ".c".repeat(300) + "=null;}");
        House.sound("value V{int x;}fun f(V v){v=v" + " with x(1)".repeat(100) + ";}");
    }
}
