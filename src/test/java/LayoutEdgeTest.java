import java.util.ArrayList;
import java.util.List;

/** Terms, section 3: SLOTS, PAYLOADS, CELLS and WORDS at each MOST, BITS and PARTS, and the cases that it names. */
public final class LayoutEdgeTest {
    /** Class by class: its kind, its NAME, its FIELDS' TYPES. A TYPE is a CLASS's NAME with ! or not, any or a number's. */
    private static final String[][][] HOUSES = {
        {{"value", "A", "byte"}, {"value", "B", "byte", "byte", "byte", "byte"}, {"value", "D", "B!", "B!"}, {"value", "E", "D!", "byte"},
            {"class", "F", "A", "A!", "D", "D!"}, {"class", "G", "E", "E!", "byte", "B"}, {"value", "H", "D", "A", "int", "E!"}, {"class", "I", "H", "H!", "long", "any"}},
        {{"value", "A", "int"}, {"value", "B", "int", "int"}, {"value", "D", "long"}, {"value", "E", "long", "byte"}, {"value", "F", "B!", "B", "A", "byte"},
            {"value", "G", "D!", "A!", "D", "F!"}, {"class", "H", "A", "B", "D", "E"}, {"class", "I", "A!", "B!", "G!", "G"}},
        {{"value", "Z"}, {"value", "Y", "Z"}, {"value", "X", "Z!"}, {"value", "W", "Z", "Z!", "Y", "X!"}, {"value", "R", "R", "Z"},
            {"value", "Q", "R", "long", "R!", "byte"}, {"class", "P", "Z", "Z!", "W", "R!"}, {"class", "O", "Q", "Q!", "Y!", "O"}},
        {{"value", "A", "long", "long", "long", "long"}, {"value", "B", "long", "long", "long", "int"}, {"value", "D", "long", "long", "long"},
            {"value", "E", "B!"}, {"value", "F", "D"}, {"class", "G", "A!", "A", "B!", "B"}, {"class", "H", "E!", "E", "F!", "F"}, {"class", "I", "D!", "D", "any", "byte"}},
        {{"value", "A", "float", "any"}, {"value", "B", "A", "A!"}, {"value", "D", "B", "B!", "A", "byte"}, {"value", "E", "D!", "long"},
            {"class", "F", "D", "D!", "E", "E!"}},
    };

    public static void main(String[] args) {
        for (String[][] house : HOUSES) {
            everyPolicy(house);
        }
        oneToMost();
        moreThanEight();
        withoutFields();
        rings();
        cellsAndParts();
        wordsOfCalls();
        House.finish();
    }

    /** How a house is laid out, worked out from the document once more. */
    private static final class Plan {
        final String[][] house;
        final int most;
        final int bits;
        final List<Integer> payload = new ArrayList<>();
        final List<Integer> alignment = new ArrayList<>();

        Plan(String[][] house, int most, int bits) {
            this.house = house;
            this.most = most;
            this.bits = bits;
        }

        int classOf(String type) {
            for (int c = 0; c < house.length; c++) {
                if (house[c][1].equals(type.replace("!", ""))) {
                    return c;
                }
            }
            return -1;
        }

        boolean isRing(int c) {
            for (int f = 2; f < house[c].length; f++) {
                if (house[c][f].equals(house[c][1])) {
                    return house[c][0].equals("value");
                }
            }
            return false;
        }

        /** Bytes, alignment, how, place of the MARK; where: v in a value, c in a class, a in an array. */
        int[] slot(String type, char where) {
            switch (type) {
                case "byte": return new int[] {1, 1, 0, -1};
                case "int": case "float": return new int[] {4, 4, 0, -1};
                case "long": return new int[] {8, 8, 0, -1};
                default:
            }
            int[] reference = {4, 4, 1, -1};
            int c = classOf(type);
            if (c < 0 || house[c][0].equals("class") || isRing(c)) {
                return reference;
            }
            boolean marked = !type.endsWith("!");
            int many = payload.get(c);
            int mark = -1;
            if (marked) {
                mark = many;
                many++;
                while (many % alignment.get(c) != 0) {
                    many++;
                }
            }
            boolean guarded = many > 8 && where != 'v';
            if (many == 0 || many > most || marked && bits % 2 == 0 || where == 'a' && bits / 2 % 2 == 0 || guarded && bits < 4) {
                return reference;
            }
            return new int[] {many, alignment.get(c), guarded ? 3 : 2, mark};
        }

        /** Lays out one more class: the place of each FIELD. */
        int[] lay(String[] fields, int from, char where) {
            int[] places = new int[fields.length];
            int at = 0;
            int greatest = 1;
            for (int a : new int[] {8, 4, 2, 1}) {
                for (int f = from; f < fields.length; f++) {
                    int[] s = slot(fields[f], where);
                    if (s[1] == a) {
                        at += (a - at % a) % a;
                        places[f] = at;
                        at += s[0];
                        greatest = Math.max(greatest, a);
                    }
                }
            }
            payload.add(at + (greatest - at % greatest) % greatest);
            alignment.add(greatest);
            return places;
        }

        int cells(int c) {
            if (house[c][0].equals("class") || isRing(c)) {
                return 0;
            }
            int sum = 0;
            for (int f = 2; f < house[c].length; f++) {
                int v = classOf(house[c][f]);
                boolean one = v < 0 || house[v][0].equals("class") || isRing(v);
                sum += one ? 1 : cells(v) + (house[c][f].endsWith("!") ? 0 : 1);
            }
            return sum;
        }
    }

    private static String text(String[][] house) {
        StringBuilder all = new StringBuilder();
        for (String[] c : house) {
            all.append(c[0]).append(' ').append(c[1]).append('{');
            for (int f = 2; f < c.length; f++) {
                all.append(c[f]).append(" f").append(f).append(';');
            }
            all.append('}');
        }
        for (int g = 0; g < Math.min(6, house.length); g++) {
            all.append("global ").append(house[g][1]).append(" g").append(g).append(';');
        }
        return all + "fun f(){}";
    }

    private static void everyPolicy(String[][] house) {
        FlatHouse x = House.with(text(house));
        for (int most = 0; most <= 32; most++) {
            for (int bits = 0; bits <= 7; bits++) {
                int parts = (most + bits) % 17;
                x.policy(most, bits, parts);
                Plan plan = new Plan(house, most, bits);
                String of = " of policy " + most + " " + bits + " " + parts;
                for (int c = 0; c < house.length; c++) {
                    int[] places = plan.lay(house[c], 2, house[c][0].charAt(0));
                    for (int f = 2; f < house[c].length; f++) {
                        slot(x, c, f - 2, places[f], plan.slot(house[c][f], house[c][0].charAt(0)), of);
                    }
                    House.due("type(" + c + ", 1)" + of, x.type(c, 1), house[c].length - 2);
                    House.due("type(" + c + ", 2)" + of, x.type(c, 2), plan.payload.get(c));
                    House.due("type(" + c + ", 3)" + of, x.type(c, 3), plan.alignment.get(c));
                    House.due("type(" + c + ", 4)" + of, x.type(c, 4), plan.cells(c));
                    boolean goes = house[c][0].equals("value") && !plan.isRing(c) && plan.cells(c) <= parts;
                    House.due("type(" + c + ", 5)" + of, x.type(c, 5), goes ? 1 : 0);
                    element(x, 5 + 2 * c, plan.slot(house[c][1], 'a'), of);
                    if (house[c][0].equals("value")) {
                        element(x, 6 + 2 * c, plan.slot(house[c][1] + "!", 'a'), of);
                    } else {
                        House.due("element(" + (6 + 2 * c) + ", 1)", x.element(6 + 2 * c, 1), -1);
                    }
                }
                String[] globals = new String[Math.min(6, house.length)];
                for (int g = 0; g < globals.length; g++) {
                    globals[g] = house[g][1];
                }
                int[] places = plan.lay(globals, 0, 'c');
                for (int g = 0; g < globals.length; g++) {
                    slot(x, -1, g, places[g], plan.slot(globals[g], 'c'), of);
                }
            }
        }
    }

    private static void slot(FlatHouse x, int c, int f, int place, int[] s, String of) {
        String call = "slot(" + c + ", " + f + ", ";
        House.due(call + "0)" + of, x.slot(c, f, 0), place);
        House.due(call + "1)" + of, x.slot(c, f, 1), s[0]);
        House.due(call + "2)" + of, x.slot(c, f, 2), s[2]);
        House.due(call + "3)" + of, x.slot(c, f, 3), s[3]);
    }

    private static void element(FlatHouse x, int code, int[] s, String of) {
        House.due("element(" + code + ", 1)" + of, x.element(code, 1), s[0]);
        House.due("element(" + code + ", 2)" + of, x.element(code, 2), s[2]);
        House.due("element(" + code + ", 3)" + of, x.element(code, 3), s[3]);
    }

    /** Whether GLOBAL f, a FIELD of class C or an element is FLAT (or GUARDED) from this MOST on, and not below. */
    private static void flatFrom(String kinds, String type, int bytes, int how) {
        FlatHouse x = House.with(kinds + "class C{" + type + " f;}fun f(){}");
        int c = x.count(0) - 1;
        for (int most = 0; most <= 32; most++) {
            x.policy(most, 7, 0);
            boolean flat = bytes >= 1 && bytes <= most;
            String of = " of " + type + " with MOST " + most + " in " + kinds;
            House.due("slot(.., 2)" + of, x.slot(c, 0, 2), flat ? how : 1);
            House.due("slot(.., 1)" + of, x.slot(c, 0, 1), flat ? bytes : 4);
        }
    }

    /** "it has 1 .. MOST bytes then (with its MARK)". */
    private static void oneToMost() {
        flatFrom("value V{}", "V!", 0, 1);
        flatFrom("value V{}", "V", 1, 2);
        flatFrom("value V{byte a;}", "V!", 1, 2);
        flatFrom("value V{byte a;}", "V", 2, 2);
        flatFrom("value V{byte a;byte b;byte c;}", "V!", 3, 2);
        flatFrom("value V{byte a;byte b;byte c;}", "V", 4, 2);
        flatFrom("value V{int a;}", "V!", 4, 2);
        flatFrom("value V{int a;}", "V", 8, 2);
        flatFrom("value V{int a;byte b;}", "V!", 8, 2);
        flatFrom("value V{int a;byte b;}", "V", 12, 3);
        flatFrom("value V{long a;}", "V!", 8, 2);
        flatFrom("value V{long a;}", "V", 16, 3);
        flatFrom("value V{long a;long b;long c;}", "V!", 24, 3);
        flatFrom("value V{long a;long b;long c;}", "V", 32, 3);
        flatFrom("value V{long a;long b;long c;byte d;}", "V!", 32, 3);
        flatFrom("value V{long a;long b;long c;byte d;}", "V", 40, 3);
        flatFrom("value V{long a;long b;long c;long d;}", "V!", 32, 3);
        flatFrom("value V{long a;long b;long c;long d;}", "V", 40, 3);
        flatFrom("value V{V v;byte b;}", "V", 0, 1);
        flatFrom("class D{}", "D", 0, 1);
    }

    /** "of more than 8 bytes in a FIELD of a class, a GLOBAL, an ARRAY, BIT 4 (GUARDED then)". */
    private static void moreThanEight() {
        // B has 4 bytes, E 8, with its MARK 9; N holds both in a value.
        FlatHouse x = House.with("value B{byte a;byte b;byte c;byte d;}value E{B! a;B! b;}value N{E! a;E b;}class C{E! a;E b;}global E e;global B b;fun f(){}");
        for (int bits = 0; bits <= 7; bits++) {
            x.policy(32, bits, 0);
            boolean nulls = (bits & 1) != 0;
            boolean arrays = (bits & 2) != 0;
            boolean more = (bits & 4) != 0;
            House.due("8 bytes in a class", x.slot(3, 0, 2), 2);
            House.due("9 bytes in a class", x.slot(3, 1, 2), nulls && more ? 3 : 1);
            House.due("8 bytes in a value", x.slot(2, 0, 2), 2);
            House.due("9 bytes in a value", x.slot(2, 1, 2), nulls ? 2 : 1);
            House.due("9 bytes of a GLOBAL", x.slot(-1, 0, 2), nulls && more ? 3 : 1);
            House.due("5 bytes of a GLOBAL", x.slot(-1, 1, 2), nulls ? 2 : 1);
            House.due("8 bytes in an ARRAY", x.element(8, 2), arrays ? 2 : 1);
            House.due("9 bytes in an ARRAY", x.element(7, 2), nulls && arrays && more ? 3 : 1);
            House.due("the MARK behind 8 bytes", x.slot(2, 1, 3), nulls ? 8 : -1);
            House.due("the bytes with it", x.slot(2, 1, 1), nulls ? 9 : 4);
        }
    }

    /** A VALUE CLASS without FIELDS: no bytes, alignment 1, no CELLS; FLAT only with its MARK. */
    private static void withoutFields() {
        FlatHouse x = House.with("value Z{}value Y{Z a;Z! b;}class C{Z a;Z! b;byte c;}class O{}global Z z;fun f(Z a,Z! b)Z{}fun g(Z[]a,Z![]b)Z!{}");
        for (int parts = 0; parts <= 16; parts += 16) {
            x.policy(1, 3, parts);
            House.due("type(0, 1)", x.type(0, 1), 0);
            House.due("type(0, 2)", x.type(0, 2), 0);
            House.due("type(0, 3)", x.type(0, 3), 1);
            House.due("type(0, 4)", x.type(0, 4), 0);
            House.due("type(0, 5)", x.type(0, 5), 1);
            House.due("type(1, 4)", x.type(1, 4), 1);
            House.due("type(1, 5)", x.type(1, 5), parts == 0 ? 0 : 1);
            House.due("type(3, 2)", x.type(3, 2), 0);
            House.due("type(3, 3)", x.type(3, 3), 1);
            House.due("type(3, 5)", x.type(3, 5), 0);
            House.due("fun(0, 2)", x.fun(0, 2), 1 + 0 + 1);
            House.due("fun(1, 2)", x.fun(1, 2), 1 + 1 + 0);
        }
        House.due("slot(2, 0, 1)", x.slot(2, 0, 1), 1);
        House.due("slot(2, 0, 2)", x.slot(2, 0, 2), 2);
        House.due("slot(2, 0, 3)", x.slot(2, 0, 3), 0);
        House.due("slot(2, 1, 1)", x.slot(2, 1, 1), 4);
        House.due("slot(2, 1, 2)", x.slot(2, 1, 2), 1);
        House.due("slot(2, 1, 3)", x.slot(2, 1, 3), -1);
        House.due("element(5, 1)", x.element(5, 1), 1);
        House.due("element(6, 1)", x.element(6, 1), 4);
        House.due("element(6, 2)", x.element(6, 2), 1);
    }

    /** "A VALUE CLASS is a RING if it has a FIELD of its own TYPE": not by an ARRAY, nor by any, nor by another RING. */
    private static void rings() {
        FlatHouse x = House.with("value R{R r;}value S{byte a;S b;}value T{T[]a;T![]b;any c;}value U{R! a;R b;}class K{K k;}global R r;global T t;fun f(R a,T b)U!{}");
        x.policy(32, 7, 16);
        int[] ring = {1, 1, 0, 0, 0};
        for (int c = 0; c < 5; c++) {
            House.due("type(" + c + ", 4)", x.type(c, 4), ring[c] == 1 || c == 4 ? 0 : c == 2 ? 3 : 2);
            House.due("type(" + c + ", 5)", x.type(c, 5), ring[c] == 1 || c == 4 ? 0 : 1);
        }
        House.due("slot(-1, 0, 2) of a RING", x.slot(-1, 0, 2), 1);
        House.due("slot(-1, 1, 2) of none", x.slot(-1, 1, 2), 3);
        House.due("slot(3, 0, 2) of a RING with !", x.slot(3, 0, 2), 1);
        House.due("element(6, 2) of a RING with !", x.element(6, 2), 1);
        House.due("element(9, 2) of none", x.element(9, 2), 3);
        House.due("fun(0, 2)", x.fun(0, 2), 1 + 4 + 2);
        // The CLASS of this number in the next program is none.
        House.tape(x, "value R{byte r;}value S{R! a;}global R r;fun f(R a){}");
        House.due("program()", x.program(), 0);
        House.due("type(0, 4)", x.type(0, 4), 1);
        House.due("type(0, 5)", x.type(0, 5), 1);
        House.due("slot(-1, 0, 2)", x.slot(-1, 0, 2), 2);
        House.due("fun(0, 2)", x.fun(0, 2), 2);
        House.tape(x, "class R{byte r;}class S{R a;}global R r;fun f(R a){}");
        House.due("program()", x.program(), 0);
        House.due("type(0, 4)", x.type(0, 4), 0);
        House.due("type(0, 5)", x.type(0, 5), 0);
        House.due("slot(-1, 0, 2)", x.slot(-1, 0, 2), 1);
        House.due("element(6, 1)", x.element(6, 1), -1);
    }

    /** "It GOES IN CELLS if it is no RING, and these are at most PARTS". */
    private static void cellsAndParts() {
        // 1, 4, 16, 17 and 80 CELLS: the last two never go.
        FlatHouse x = House.with("value A{int a;}value B{int a;byte b;any c;float d;}value D{B! a;B! b;B! c;B! d;}value E{B a;B! b;B! c;B! d;}value F{D! a;D b;E! c;E d;}"
                + "fun a(A a)A!{}fun b(B! b)B{}fun d(D d)D!{}fun e(E! e)E{}fun f(F! f)F{}");
        int[] cells = {1, 4, 16, 17, 16 + 17 + 17 + 18};
        for (int parts = 0; parts <= 16; parts++) {
            x.policy(0, 0, parts);
            for (int c = 0; c < 5; c++) {
                boolean goes = cells[c] <= parts;
                House.due("type(" + c + ", 4)", x.type(c, 4), cells[c]);
                House.due("type(" + c + ", 5) with PARTS " + parts, x.type(c, 5), goes ? 1 : 0);
                House.due("fun(" + c + ", 2) with PARTS " + parts, x.fun(c, 2), goes ? 2 * cells[c] + 1 : 2);
            }
        }
    }

    /** "WORDS of a CALL (spawn, too)", those that were made: not THREAD 0, not one that FAILS. */
    private static void wordsOfCalls() {
        String text = "value V{int a;int b;}fun f(V a,V! b,V[]c)V{return a;}fun g(){}fun k(V a)V!{return a;}fun main(){V v=new V(1,2);g();f(null,v,null);spawn f(v,v,null);v=k(v);try{k(null);}catch e{}try{f(v,null as V,null);}catch e{}spawn g();}";
        FlatHouse x = House.with(text);
        for (int parts = 0; parts <= 3; parts++) {
            x.policy(0, 0, parts);
            House.due("run", House.go(x, 1, 99), 0);
            boolean goes = parts >= 2;
            int f = goes ? 3 + 2 + 1 + 3 : 4;
            int k = goes ? 3 + 2 : 2;
            House.due("fun(0, 2)", x.fun(0, 2), f);
            House.due("fun(2, 2)", x.fun(2, 2), k);
            House.due("result(7) with PARTS " + parts, x.result(7), 2 * f + 2 * k);
        }
    }
}
