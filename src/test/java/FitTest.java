/** Terms, section 1, "TYPES of Es" and FITTING: each TYPE where each other one is asked for, and under each operation. */
public final class FitTest {
    private static final String KINDS = "class C{int n;}class D{int n;}value V{int n;}value W{int n;}";
    private static final String[] TYPES = {"byte", "int", "long", "float", "any", "C", "D", "V", "V!", "W", "W!",
        "byte[]", "int[]", "long[]", "float[]", "any[]", "C[]", "D[]", "V[]", "V![]", "W[]", "W![]"};
    private static final String NULL = "null";

    public static void main(String[] args) {
        for (String want : TYPES) {
            for (String got : TYPES) {
                where(want, got, "a");
            }
            where(want, NULL, NULL);
            typesWithNeverNull(want);
        }
        for (String left : withNull()) {
            oneOperand(left);
            for (String right : withNull()) {
                twoOperands(left, right);
            }
            for (String to : TYPES) {
                turned(left, to);
            }
        }
        House.finish();
    }

    private static String[] withNull() {
        String[] all = java.util.Arrays.copyOf(TYPES, TYPES.length + 1);
        all[TYPES.length] = NULL;
        return all;
    }

    /** That the text is a program, or that FAULT 5 is where the mark @ stands. */
    private static void told(boolean good, String marked) {
        if (good) {
            House.sound(marked.replace("@", ""));
        } else {
            House.faulty(5, marked);
        }
    }

    private static boolean isNumber(String t) {
        return t.equals("byte") || t.equals("int") || t.equals("long") || t.equals("float");
    }

    private static boolean isArray(String t) {
        return t.endsWith("[]");
    }

    private static boolean isClass(String t) {
        return t.length() <= 2 && !isArray(t);
    }

    private static boolean isValue(String t) {
        return isClass(t) && (t.startsWith("V") || t.startsWith("W"));
    }

    private static String asE(String t) {
        return t.equals("byte") ? "int" : t;
    }

    private static boolean fits(String want, String got) {
        if (isNumber(want)) {
            return asE(want).equals(asE(got));
        }
        if (isNumber(got)) {
            return false;
        }
        if (got.equals(NULL)) {
            return !want.endsWith("!");
        }
        return want.equals("any") || want.equals(got) || isValue(want) && isValue(got) && want.charAt(0) == got.charAt(0);
    }

    /** A FUN whose parameter a is of this TYPE. */
    private static String fun(String type, String statement) {
        return "fun m(" + (type.equals(NULL) ? "int" : type) + " a){" + statement + "}";
    }

    private static String e(String type) {
        return type.equals(NULL) ? NULL : "a";
    }

    /** "arguments, FIELDS, what is assigned or returned FIT". */
    private static void where(String want, String got, String e) {
        boolean good = fits(want, got);
        told(good, KINDS + fun(got, want + " b=@" + e + ";"));
        told(good, KINDS + fun(got, want + " b=b0();b=@" + e + ";").replace("fun m", "fun b0()" + want + "{}fun m"));
        told(good, KINDS + "class P{" + want + " f;}" + fun(got, "P p=null;p.f=@" + e + ";"));
        told(good, KINDS + "class P{int o;" + want + " f;}" + fun(got, "P p=new P(1,@" + e + ");"));
        told(good, KINDS + "value P{" + want + " f;int o;}" + fun(got, "P p=new P(@" + e + ",1);"));
        told(good, KINDS + "value P{" + want + " f;}" + fun(got, "P p=null;p=p with f(@" + e + ");"));
        told(good, KINDS + "fun g(int o," + want + " b){}" + fun(got, "g(1,@" + e + ");"));
        told(good, KINDS + "fun g(" + want + " b,int o){}" + fun(got, "spawn g(@" + e + ",1);"));
        told(good, KINDS + fun(got, "return @" + e + ";").replace("a){", "a)" + want + "{"));
        if (!want.endsWith("!")) {
            told(good, KINDS + "global " + want + " g;" + fun(got, "g=@" + e + ";"));
        }
        if (!isArray(want)) {
            told(good, KINDS + fun(got, want + "[]b=null;b[0]=@" + e + ";"));
        }
        if (want.endsWith("!")) {
            told(good, KINDS + fun(got, "any b=new " + want + "[1](@" + e + ");"));
        }
    }

    /** "each of them perhaps with ! behind (which fits a VALUE CLASS alone: never null)". */
    private static void typesWithNeverNull(String t) {
        if (isArray(t) || t.endsWith("!")) {
            return;
        }
        boolean good = isValue(t);
        told(good, KINDS + "fun f(" + t + "@! a){}");
        told(good, KINDS + "fun f(" + t + "@![] a){}");
        told(good, KINDS + "fun f()" + t + "@!{}");
        told(good, KINDS + "class P{" + t + "@! f;}fun f(){}");
        told(good, KINDS + "value P{" + t + "@![] f;}fun f(){}");
        told(good, KINDS + "global " + t + "@![] g;fun f(){}");
        told(false, KINDS + "global " + t + "@! g;fun f(){}");
        told(good, KINDS + "fun f(any a){a=a as " + t + "@!;}");
        House.faulty(1, KINDS + "fun f(){any a=new " + t + "[1]@(1);}");
    }

    private static void oneOperand(String t) {
        String e = e(t);
        boolean number = isNumber(t);
        boolean whole = asE(t).equals("int");
        told(number, KINDS + fun(t, "out @-" + e + ";"));
        told(whole, KINDS + fun(t, "out @not " + e + ";"));
        told(isArray(t), KINDS + fun(t, "out @len " + e + ";"));
        told(!number, KINDS + fun(t, "out @hash " + e + ";"));
        told(!number, KINDS + fun(t, "out " + e + " @is C;"));
        told(isClass(t), KINDS + fun(t, "out " + e + "@.n;"));
        told(isArray(t), KINDS + fun(t, "out " + e + "@[0]==" + e + "[0];"));
        told(isValue(t), KINDS + fun(t, "any b=" + e + " @with n(1);"));
        told(whole, KINDS + fun(t, "if @" + e + "{}"));
        told(whole, KINDS + fun(t, "while @" + e + "{}"));
        told(whole, KINDS + fun(t, "fail @" + e + ";"));
        told(whole, KINDS + fun(t, "any b=new any[@" + e + "];"));
        told(whole, KINDS + fun(t, "any b=new V![@" + e + "](new V(1));"));
        told(whole, KINDS + fun(t, "int[]b=null;out b[@" + e + "];"));
        told(whole, KINDS + fun(t, "int[]b=null;b[@" + e + "]=1;"));
        told(number, KINDS + fun(t, "out @" + e + ";"));
        told(!number, KINDS + fun(t, "lock @" + e + "{}"));
    }

    private static void twoOperands(String left, String right) {
        String ahead = KINDS + "fun m(" + (left.equals(NULL) ? "int" : left) + " a," + (right.equals(NULL) ? "int" : right) + " b){out ";
        String l = e(left);
        String r = right.equals(NULL) ? NULL : "b";
        boolean one = isNumber(left) && asE(left).equals(asE(right));
        boolean references = !isNumber(left) && !isNumber(right);
        told(one || references, ahead + l + "@==" + r + ";}");
        for (String op : new String[] {"<", "+", "-", "*", "/", "%"}) {
            told(one && !(op.equals("%") && left.equals("float")), ahead + l + "@" + op + r + ";}");
        }
    }

    /** "as: a number to a number TYPE, a reference to another TYPE"; what it is then. */
    private static void turned(String from, String to) {
        String e = e(from);
        boolean good = isNumber(from) == isNumber(to);
        told(good, KINDS + fun(from, asE(to) + " b=" + e + " @as " + to + ";"));
        if (good && !to.equals("any")) {
            String other = to.equals("long") ? "int" : "long";
            House.faulty(5, KINDS + fun(from, other + " b=@" + e + " as " + to + ";"));
        }
    }
}
