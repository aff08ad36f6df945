/** Promises 12 to 14: what a run of one thread works out, puts out, and how it FAILS. */
public final class RunTest {
    private static final String KINDS = "class C { int n ; C next ; } value V { int x ; byte y ; } value R { R up ; long w ; } "
            + "value W { any a ; float f ; } value Z { } value N { V ! v ; int k ; } class B { byte b ; V ! v ; } "
            + "global int gi ; global long gl ; global float gf ; global any ga ; global C gc ; global byte gb ; ";

    public static void main(String[] args) {
        wrongCalls();
        wholeNumbers();
        casts();
        bytes();
        order();
        sameness();
        isAndAs();
        hashes();
        withs();
        nullFailures();
        otherFailures();
        orderOfFailures();
        trys();
        returns();
        limits();
        allAtOnce();
        muchAtOnce();
        outputs();
        House.finish();
    }

    private static int thrown(FlatHouse x, int k, int steps) {
        try {
            x.run(k, 0, steps);
            return 0;
        } catch (IllegalStateException e) {
            return 1;
        } catch (IllegalArgumentException e) {
            return 2;
        }
    }

    private static void wrongCalls() {
        FlatHouse x = new FlatHouse();
        House.due("run without a program", thrown(x, 0, 1), 1);
        House.due("run without a program, all wrong", thrown(x, -1, 0), 1);
        x = House.with("fun f ( ) { out 5 ; } fun g ( int a ) { }");
        House.due("run(-1, ..)", thrown(x, -1, 1), 2);
        House.due("run(2, ..)", thrown(x, 2, 1), 2);
        House.due("run of a FUN with parameters", thrown(x, 1, 1), 2);
        House.due("run of 0 steps", thrown(x, 0, 0), 2);
        House.due("run of 4001 steps", thrown(x, 0, 4001), 2);
        House.due("result(0)", x.result(0), -1);
        House.due("run of 1 step", thrown(x, 0, 1), 0);
        House.due("run of 4000 steps", thrown(x, 0, 4000), 0);
        House.due("a wrong run", thrown(x, 1, 1), 2);
        House.due("output(0) behind a wrong run", x.output(0), 5);
        House.due("result(10)", x.result(10), -1);
        House.due("result(-1)", x.result(-1), -1);
        House.due("program() of nothing", x.program(), 1);
        House.due("run behind a FAULT", thrown(x, 0, 1), 1);
    }

    private static void wholeNumbers() {
        House.puts(KINDS, "out 7 / 2 ; out - 7 / 2 ; out 7 / - 2 ; out 7 % 3 ; out - 7 % 3 ; out 7 % - 3 ;", 3, -3, -3, 1, -1, 1);
        House.puts(KINDS, "out 2147483647 + 1 ; out - 2147483647 - 2 ; out 65536 * 65536 ; out 65537 * 65537 ;",
                -2147483648, 2147483647, 0, 131073);
        House.puts(KINDS, "int m = - 2147483647 - 1 ; out m / - 1 ; out m % - 1 ; out - m ;", -2147483648, 0, -2147483648);
        House.puts(KINDS, "long m = - ( 2147483647 as long ) ; m = m * m ; out m ; m = m * ( 4 as long ) ; out m ; out - m ;",
                4611686014132420609L, 4611686014132420609L * 4, -(4611686014132420609L * 4));
        House.puts(KINDS, "long m = 1 as long ; int i = 0 ; while i < 63 { m = m + m ; i = i + 1 ; } out m ; out m / - ( 1 as long ) ; "
                + "out m % - ( 1 as long ) ; out m - ( 1 as long ) ; out - m ; out m as float ; out ( m - ( 1 as long ) ) as float ;",
                Long.MIN_VALUE, Long.MIN_VALUE, 0, Long.MAX_VALUE, Long.MIN_VALUE, 0xdf000000, 0x5f000000);
        House.puts(KINDS, "out not 0 ; out not 5 ; out not - 1 ; out 1 < 2 ; out 2 < 1 ; out 1 < 1 ; out 1 == 1 ; out 1 == 2 ;",
                1, 0, 0, 1, 0, 0, 1, 0);
        House.puts(KINDS, "out 10 - 2 - 3 ; out 100 / 10 / 5 ; out 2 + 3 * 4 ; out ( 2 + 3 ) * 4 ; out 17 % 10 * 2 ; out 1 + 1 == 2 ;",
                5, 2, 14, 20, 14, 1);
        House.puts(KINDS, "out - 2 * 3 ; out - - 5 ; out not not 7 ; out gl == ( 0 as long ) ; out ( 5 as long ) < ( 4 as long ) ;", -6, 5, 1, 1, 0);
    }

    private static void casts() {
        House.puts(KINDS, "out 300 as byte ; out 200 as byte ; out - 129 as byte ; out ( - 129 ) as byte ;", 44, -56, 127, 127);
        House.puts(KINDS, "out ( 2147483647 as long ) + ( 1 as long ) ; out ( ( 2147483647 as long ) + ( 1 as long ) ) as int ;",
                2147483648L, -2147483648);
        House.puts(KINDS, "out ( - 1 as long ) ; out ( ( 511 as long ) as byte ) ; out - ( 5 as long ) as byte ;", -1, -1, -5);
        House.puts(KINDS, "out 1 as float ; out - 1 as float ; out 16777217 as float ; out 2147483647 as float ;",
                0x3f800000, Float.floatToIntBits(-1f), Float.floatToIntBits(16777216f), Float.floatToIntBits(2147483648f));
        House.puts(KINDS, "out #3fc00000 as int ; out #bfc00000 as int ; out #7f800000 as int ; out #ff800000 as int ; out #7fc00000 as int ;",
                1, -1, Integer.MAX_VALUE, Integer.MIN_VALUE, 0);
        House.puts(KINDS, "out #7f800000 as long ; out #ff800000 as long ; out #7fc00001 as long ; out #4f000000 as long ;",
                Long.MAX_VALUE, Long.MIN_VALUE, 0, 2147483648L);
        House.puts(KINDS, "out #43800000 as byte ; out #43960000 as byte ; out #7f800000 as byte ; out #ff800000 as byte ;", 0, 44, -1, 0);
        House.puts(KINDS, "out #7fc00001 as float ; out #ffffffff as float ; out #7fc00001 ; out - #7fc00001 ; out - #ffc00000 ;",
                0x7fc00001, -1, 0x7fc00001, 0x7fc00000, 0x7fc00000);
    }

    private static void bytes() {
        House.puts(KINDS, "byte b = 200 ; out b ; b = b + 100 ; out b ; gb = 384 ; out gb ; byte [ ] a = new byte [ 1 ] ; a [ 0 ] = 255 ; out a [ 0 ] ;",
                -56, 44, -128, -1);
        House.puts(KINDS, "V v = new V ( 300 , 300 ) ; out v . x ; out v . y ; v = v with y ( 128 ) ; out v . y ; B b = new B ( 511 , v ) ; out b . b ; b . b = 1000 ; out b . b ;",
                300, 44, -128, -1, -24);
        House.puts(KINDS + "fun f ( byte b ) byte { out b ; return b + 100 ; } ", "out f ( 300 ) ; out f ( 100 ) ; spawn f ( 257 ) ;", 44, -112, 100, -56, 1);
    }

    /** Es go from left to right; of a PLACE its last part comes behind what is assigned. */
    private static void order() {
        String ahead = KINDS + "fun t ( int n ) int { out n ; return n ; } fun c ( int n ) C { out n ; return null ; } "
                + "fun a ( int n ) int [ ] { out n ; return new int [ 2 ] ; } fun v ( int n ) V { out n ; return new V ( n , n ) ; } ";
        House.puts(ahead, "int s = t ( 1 ) + t ( 2 ) * t ( 3 ) - t ( 4 ) ; out s ;", 1, 2, 3, 4, 3);
        House.puts(ahead, "int [ ] x = a ( 9 ) ; x [ t ( 0 ) ] = t ( 5 ) ; out x [ t ( 0 ) ] ; out t ( 1 ) == t ( 2 ) ;", 9, 0, 5, 0, 5, 1, 2, 0);
        House.puts(ahead, "any n = new V ( t ( 1 ) , t ( 2 ) ) ; n = v ( 3 ) with x ( t ( 4 ) ) ; n = new V ! [ t ( 5 ) ] ( v ( 6 ) ) ;", 1, 2, 3, 4, 5, 6);
        House.puts(ahead, "try { gc . n = t ( 1 ) ; } catch e { out e ; } try { gc . next . n = t ( 2 ) ; } catch e { out e ; }", 1, 1, 1);
        House.puts(ahead, "int [ ] x = null ; try { x [ t ( 7 ) ] = t ( 8 ) ; } catch e { out e ; } try { out x [ t ( 9 ) ] ; } catch e { out e ; }", 7, 8, 1, 9, 1);
        House.puts(ahead, "int [ ] x = a ( 1 ) ; try { x [ 2 ] = t ( 8 ) ; } catch e { out e ; } try { x [ - 1 ] = 1 / 0 ; } catch e { out e ; }", 1, 8, 3, 2);
    }

    private static void sameness() {
        House.puts(KINDS, "out null == null ; out gc == null ; gc = new C ( 1 , null ) ; out gc == gc ; out gc == new C ( 1 , null ) ; out gc == null ;", 1, 1, 1, 0, 0);
        House.puts(KINDS, "out new V ( 1 , 2 ) == new V ( 1 , 2 ) ; out new V ( 1 , 2 ) == new V ( 1 , 3 ) ; out new V ( 1 , 258 ) == new V ( 1 , 2 ) ; out new V ( 0 , 0 ) == null ;", 1, 0, 1, 0);
        House.puts(KINDS, "out new Z ( ) == new Z ( ) ; out new Z ( ) == new V ( 0 , 0 ) ; any a = new Z ( ) ; any b = new Z ( ) ; out a == b ;", 1, 0, 1);
        House.puts(KINDS, "out new W ( null , #0 ) == new W ( null , #80000000 ) ; out #0 == #80000000 ; out new W ( null , #7fc00000 ) == new W ( null , #7fc00000 ) ; "
                + "out #7fc00000 == #7fc00000 ; out new W ( null , #7fc00001 ) == new W ( null , #7fc00000 ) ;", 0, 1, 1, 0, 0);
        House.puts(KINDS, "C c = new C ( 1 , null ) ; out new W ( c , #0 ) == new W ( c , #0 ) ; out new W ( c , #0 ) == new W ( new C ( 1 , null ) , #0 ) ; "
                + "out new W ( new V ( 1 , 2 ) , #0 ) == new W ( new V ( 1 , 2 ) , #0 ) ; out new W ( new V ( 1 , 2 ) , #0 ) == new W ( new V ( 2 , 2 ) , #0 ) ;", 1, 0, 1, 0);
        House.puts(KINDS, "R a = new R ( new R ( null , gl ) , gl ) ; out a == new R ( new R ( null , gl ) , gl ) ; out a == new R ( null , gl ) ; out a . up == new R ( null , gl ) ;", 1, 0, 1);
        House.puts(KINDS, "int [ ] a = new int [ 1 ] ; any b = a ; out a == b ; out a == new int [ 1 ] ; out b == null ;", 1, 0, 0);
        String kept = "value K { int k ; any a ; long l ; K u ; }";
        House.puts(kept, "long l = 5 as long ; K a = new K ( 1 , new K ( 2 , null , l , null ) , l , null ) ; out a == new K ( 1 , new K ( 2 , null , l , null ) , l , null ) ; "
                + "out a == new K ( 1 , new K ( 2 , null , l , a ) , l , null ) ; out a == new K ( 1 , new K ( 2 , null , l , null ) , l - l , null ) ; "
                + "out a == new K ( 1 , null , l , null ) ; out new K ( 1 , null , l , a ) == new K ( 1 , null , l , a with k ( 1 ) ) ; out new K ( 1 , null , l , a ) == new K ( 1 , null , l , null ) ;",
                1, 0, 0, 0, 1, 0);
    }

    private static void isAndAs() {
        House.puts(KINDS, "any a = null ; out a is C ; out null is C ; out gc is C ; C c = a as C ; out c == null ; C [ ] d = a as C [ ] ; out d == null ;", 0, 0, 0, 1, 1);
        House.puts(KINDS, "any a = new V ( 1 , 2 ) ; out a is V ; out a is C ; out a is Z ; a = null ; out a is V ; a = new V [ 1 ] ; out a is V ; a = new C ( 1 , null ) ; out a is C ;",
                1, 0, 0, 0, 0, 1);
        House.puts(KINDS, "any a = new V ( 7 , 2 ) ; out ( a as V ) . x ; out ( a as V ! ) . x ; out ( a as any as V ) . x ; a = null ; V v = a as V ; out v == null ; C c = a as C ; int [ ] d = a as int [ ] ; out d == null ;",
                7, 7, 7, 1, 1);
        House.puts(KINDS, "any a = new V [ 3 ] ; out len ( a as V [ ] ) ; try { a = a as V ! [ ] ; } catch e { out e ; } try { a = a as any [ ] ; } catch e { out e ; } try { a = a as V ; } catch e { out e ; }",
                3, 5, 5, 5);
        House.puts(KINDS, "any a = new V ! [ 3 ] ( new V ( 1 , 1 ) ) ; out len ( a as V ! [ ] ) ; try { a = a as V [ ] ; } catch e { out e ; } try { a = ( null as any ) as V ! ; } catch e { out e ; }", 3, 5, 1);
        House.fails(KINDS, "any a = new V ( 1 , 1 ) ; C c = a as C ;", 5);
        House.fails(KINDS, "C c = new V ( 1 , 1 ) as C ;", 5);
        House.fails(KINDS, "any a = new byte [ 1 ] as int [ ] ;", 5);
    }

    private static void hashes() {
        FlatHouse x = House.puts(KINDS, "C c = new C ( 1 , null ) ; any d = new int [ 1 ] ; out hash null ; out hash d ; out hash c ; out hash d ; out hash gc ;", 0, 1, 2, 1, 0);
        House.due("result(9)", x.result(9), 2);
        int v = 31 * (31 * (1 + 7) + 5) + -3;
        House.puts(KINDS, "out hash new V ( 5 , - 3 ) ; out hash new Z ( ) ; out hash new N ( new V ( 5 , - 3 ) , 9 ) ;", v, 4 + 7, 31 * (31 * (5 + 7) + v) + 9);
        int w = 31 * (31 * (3 + 7) + 1) + 0x40490fdb;
        int r = 31 * (31 * (2 + 7)) + (int) (-5L ^ -5L >>> 32);
        x = House.puts(KINDS, "C c = new C ( 1 , null ) ; out hash new W ( c , #40490fdb ) ; out hash c ; out hash new R ( null , - ( 5 as long ) ) ; out hash new R ( new R ( null , - ( 5 as long ) ) , gl ) ;",
                w, 1, r, 31 * (31 * (2 + 7) + r));
        House.due("result(9)", x.result(9), 1);
    }

    private static void withs() {
        FlatHouse x = House.puts(KINDS, "V v = new V ( 1 , 2 ) ; V w = v with x ( 5 ) ; out v . x ; out w . x ; out w . y ; N n = new N ( v , 3 ) with v ( w ) ; out n . v . x ; out n . k ;", 1, 5, 2, 5, 3);
        House.due("result(6)", x.result(6), 4);
        House.fails(KINDS, "V v = null ; any a = v with x ( 1 ) ;", 1);
        House.fails(KINDS, "V v = null ; any a = v with x ( 1 / 0 ) ;", 2);
        House.fails(KINDS, "V v = null ; any a = new N ( new V ( 1 , 1 ) , 3 ) with v ( v ) ;", 1);
    }

    private static void nullFailures() {
        House.fails(KINDS, "out gc . n ;", 1);
        House.fails(KINDS, "gc . n = 1 ;", 1);
        House.fails(KINDS, "V v = null ; out v . x ;", 1);
        House.fails(KINDS, "int [ ] a = null ; out a [ 0 ] ;", 1);
        House.fails(KINDS, "int [ ] a = null ; a [ 0 ] = 1 ;", 1);
        House.fails(KINDS, "int [ ] a = null ; out len a ;", 1);
        House.fails(KINDS, "lock gc { }", 1);
        House.fails(KINDS, "V v = null ; V ! w = v ;", 1);
        House.fails(KINDS, "V v = null ; V ! w = new V ( 1 , 1 ) ; w = v ;", 1);
        House.fails(KINDS, "V v = null ; any a = new N ( v , 1 ) ;", 1);
        House.fails(KINDS, "V v = null ; B b = new B ( 1 , new V ( 1 , 1 ) ) ; b . v = v ;", 1);
        House.fails(KINDS, "V v = null ; any a = new V ! [ 1 ] ( v ) ;", 1);
        House.fails(KINDS, "V v = null ; any a = new V ! [ 0 ] ( v ) ;", 1);
        House.fails(KINDS, "V v = null ; V ! [ ] a = new V ! [ 1 ] ( new V ( 1 , 1 ) ) ; a [ 0 ] = v ;", 1);
        House.fails(KINDS, "V v = null ; any a = v as V ! ;", 1);
        House.fails(KINDS + "fun f ( V ! v ) { }", "V v = null ; f ( v ) ;", 1);
        House.fails(KINDS + "fun f ( V ! v ) { }", "V v = null ; spawn f ( v ) ;", 1);
        House.fails(KINDS + "fun f ( V v ) V ! { return v ; }", "f ( null ) ;", 1);
        House.fails(KINDS + "fun f ( ) V ! { }", "f ( ) ;", 1);
        House.fails(KINDS + "fun f ( ) V ! { out 1 ; }", "f ( ) ;", 1);
        House.puts(KINDS, "V [ ] a = new V [ 2 ] ; out a [ 0 ] == null ; a [ 0 ] = new V ( 1 , 1 ) ; a [ 0 ] = null ; out a [ 0 ] == null ; V ! [ ] b = new V ! [ 2 ] ( new V ( 3 , 4 ) ) ; out b [ 0 ] . x ; out b [ 1 ] . y ;", 1, 1, 3, 4);
    }

    private static void otherFailures() {
        House.fails(KINDS, "out 1 / 0 ;", 2);
        House.fails(KINDS, "out 1 % 0 ;", 2);
        House.fails(KINDS, "out gl / gl ;", 2);
        House.fails(KINDS, "out gl % gl ;", 2);
        House.puts(KINDS, "out gf / gf ; out #3f800000 / gf ;", 0x7fc00000, 0x7f800000);
        House.fails(KINDS, "out new int [ 3 ] [ 3 ] ;", 3);
        House.fails(KINDS, "out new int [ 3 ] [ - 1 ] ;", 3);
        House.fails(KINDS, "any a = new int [ - 1 ] ;", 3);
        House.fails(KINDS, "any a = new V ! [ - 1 ] ( new V ( 1 , 1 ) ) ;", 3);
        House.fails(KINDS, "lock new V ( 1 , 1 ) { }", 4);
        House.fails(KINDS, "any a = new Z ( ) ; lock a { }", 4);
        House.fails(KINDS, "fail 77 ;", 77);
        House.fails(KINDS, "fail - 5 ;", -5);
        House.fails(KINDS, "fail 0 ;", 0);
        House.puts(KINDS, "lock new int [ 1 ] { out 1 ; }", 1);
    }

    private static void orderOfFailures() {
        House.fails(KINDS, "gc . n = 1 / 0 ;", 2);
        House.fails(KINDS, "int [ ] a = null ; a [ 1 / 0 ] = 1 ;", 2);
        House.fails(KINDS, "int [ ] a = null ; a [ - 1 ] = 1 ;", 1);
        House.fails(KINDS, "V v = null ; V ! [ ] a = new V ! [ 1 ] ( new V ( 1 , 1 ) ) ; a [ 1 ] = v ;", 3);
        House.fails(KINDS, "V v = null ; any a = new V ! [ - 1 ] ( v ) ;", 3);
        House.fails(KINDS, "V v = null ; any a = new V ! [ 601 ] ( v ) ;", 1);
        House.fails(KINDS, "any a = new int [ 601 ] ;", 6);
    }

    private static void trys() {
        House.puts(KINDS, "try { out 1 ; fail 9 ; out 2 ; } catch e { out e ; } out 3 ;", 1, 9, 3);
        House.puts(KINDS, "try { out 1 ; } catch e { out e ; } out 3 ;", 1, 3);
        House.puts(KINDS, "try { try { fail 1 ; } catch e { fail e + 1 ; } out 5 ; } catch e { out e ; }", 2);
        House.puts(KINDS, "try { try { fail 1 ; } catch e { out e ; } fail 4 ; } catch e { out e ; }", 1, 4);
        House.puts(KINDS + "fun f ( int n ) { if n == 0 { fail 8 ; } f ( n - 1 ) ; }", "int a = 3 ; try { f ( 5 ) ; } catch e { out e ; } out a ;", 8, 3);
        House.puts(KINDS + "fun f ( int n ) int { try { return 10 / n ; } catch e { out e ; } return 7 ; }", "out f ( 0 ) + f ( 5 ) ; out 1 + f ( 0 ) ;", 2, 9, 2, 8);
        FlatHouse x = House.fails(KINDS, "try { } catch e { out e ; } fail 6 ;", 6);
        House.due("result(3)", x.result(3), 0);
        House.fails(KINDS + "fun f ( ) { try { return ; } catch e { } }", "f ( ) ; fail 6 ;", 6);
        House.puts(KINDS + "fun f ( V v ) V ! { try { return v ; } catch e { out e ; } return new V ( 4 , 4 ) ; }", "out f ( null ) . x ;", 1, 4);
        House.puts(KINDS, "int i = 0 ; while i < 3 { try { i = i + 1 ; out 6 / ( i - 2 ) ; } catch e { out 100 + e ; } }", -6, 102, 6);
        House.puts(KINDS, "lock new C ( 1 , null ) { try { lock new C ( 2 , null ) { fail 3 ; } } catch e { out e ; } }", 3);
    }

    private static void returns() {
        House.puts(KINDS + "fun a ( ) int { } fun b ( ) long { } fun c ( ) float { } fun d ( ) any { } fun e ( ) V { } fun g ( ) byte { } ",
                "out a ( ) ; out b ( ) ; out c ( ) ; out d ( ) == null ; out e ( ) == null ; out g ( ) ;", 0, 0, 0, 1, 1, 0);
        House.puts(KINDS + "fun f ( int n ) int { if n { return 1 ; } out 5 ; } ", "out f ( 1 ) ; out f ( 0 ) ;", 1, 5, 0);
        House.puts(KINDS + "fun f ( int a , long b , V ! c ) long { return ( a + c . x ) as long + b ; } ", "out f ( 1 , 2 as long , new V ( 3 , 4 ) ) ;", 6);
        House.puts(KINDS + "fun fib ( int n ) int { if n < 2 { return n ; } return fib ( n - 1 ) + fib ( n - 2 ) ; } ", "out fib ( 10 ) ;", 55);
        House.puts(KINDS, "out 1 ; return ; out 2 ;", 1);
    }

    private static void limits() {
        FlatHouse x = House.fails(KINDS, "while 1 { any a = new C ( 1 , null ) ; }", 6);
        House.due("result(4)", x.result(4), 200);
        x = House.fails(KINDS, "int i = 0 ; while i < 199 { any a = new int [ 3 ] ; i = i + 1 ; } any b = new int [ 3 ] ; b = new int [ 0 ] ;", 6);
        House.due("result(4)", x.result(4), 200);
        House.due("result(5)", x.result(5), 600);
        x = House.puts(KINDS, "any b = new int [ 600 ] ; b = new C [ 0 ] ; try { b = new int [ 1 ] ; } catch e { out e ; } try { b = new int [ 2147483647 ] ; } catch e { out e ; } out hash b ;", 6, 6, 1);
        House.due("result(4)", x.result(4), 2);
        House.due("result(5)", x.result(5), 600);
        x = House.fails(KINDS, "while 1 { any a = new V ( 1 , 1 ) ; }", 6);
        House.due("result(6)", x.result(6), 1000);
        x = House.fails(KINDS, "V v = new V ( 0 , 0 ) ; while 1 { v = v with x ( v . x + 1 ) ; if v . x == 999 { out v . x ; } }", 6);
        House.due("result(6)", x.result(6), 1000);
        House.due("output(0)", x.output(0), 999);
        x = House.fails(KINDS, "R r = null ; while 1 { r = new R ( r , gl ) ; gi = gi + 1 ; out gi ; }", 7);
        House.due("result(3)", x.result(3), 40);
        House.due("result(6)", x.result(6), 40);
        x = House.puts(KINDS, "R r = null ; int i = 0 ; while i < 20 { r = new R ( r , gl ) ; i = i + 1 ; } R q = r ; while i < 39 { q = new R ( q , gl ) ; i = i + 1 ; } "
                + "any a = new W ( q , #0 ) ; try { a = new W ( a , #0 ) ; } catch e { out e ; } try { a = r with up ( q with up ( q ) ) ; } catch e { out e ; } out hash q == hash q ; out q == q ;", 7, 7, 1, 1);
        House.due("result(6)", x.result(6), 41);
        x = House.fails(KINDS + "fun f ( int n ) { out n ; f ( n + 1 ) ; }", "f ( 1 ) ;", 8);
        House.due("result(3)", x.result(3), 29);
        House.due("result(7)", x.result(7), 29);
        House.due("result(8)", x.result(8), 30);
        x = House.puts(KINDS + "fun f ( ) { }", "spawn f ( ) ; spawn f ( ) ; spawn f ( ) ; spawn f ( ) ; spawn f ( ) ; try { spawn f ( ) ; } catch e { out e ; }", 8);
        House.due("result(2)", x.result(2), 6);
        x = House.fails(KINDS + "fun f ( V ! v , int n ) { f ( v , n + 1 ) ; }", "V v = new V ( 1 , 1 ) ; f ( v , 1 ) ;", 8);
        House.fails(KINDS + "fun f ( V ! v , int n ) { V w = v ; if n == 29 { w = null ; } f ( w , n + 1 ) ; }", "V v = new V ( 1 , 1 ) ; f ( v , 1 ) ;", 1);
    }

    /** As many objects, elements and values as there may be, with as many FIELDS; all is still as it was put in. */
    private static void allAtOnce() {
        FlatHouse x = House.puts("class C { int a ; C b ; long c ; any d ; } value V { int a ; int b ; long c ; any d ; } "
                + "global C c ; global any [ ] e ; global V v ; global V w ; global int s ; global int k ; "
                + "fun f ( ) V { V v = null ; return new V ( 1 , 2 , 3 as long , null ) with a ( 4 ) with b ( 5 ) with a ( 6 ) with b ( 7 ) ; }",
                "e = new any [ 600 ] ; while k < 199 { c = new C ( k , c , k as long , e ) ; e [ k ] = f ( ) ; k = k + 1 ; } v = f ( ) ; "
                + "try { v = v with a ( 0 ) ; } catch x { out x ; } try { c = new C ( 0 , c , 0 as long , null ) ; } catch x { out x ; } "
                + "while 0 < k { k = k - 1 ; s = s + c . a + ( e [ k ] as V ) . b ; c = c . b ; } out s ; out v . a ; out c == null ;", 6, 6, 199 * 198 / 2 + 199 * 7, 6, 1);
        House.due("result(4)", x.result(4), 200);
        House.due("result(5)", x.result(5), 600);
        House.due("result(6)", x.result(6), 1000);
        House.puts("class C { int n ; } global C c ; fun w ( int n ) { lock c { c . n = c . n + n ; } } ",
                "int i = 0 ; while i < 200 { c = new C ( i ) ; i = i + 1 ; } lock c { } w ( 1 ) ; spawn w ( 10 ) ; spawn w ( 100 ) ; i = 0 ; while i < 50 { i = i + 1 ; } "
                + "lock c { out c . n ; } out hash c ; any a = c ; out a is C ; out a == c ;", 310, 1, 1, 1);
    }

    /** As many frames as there may be, each with much that waits to be worked out; and a text as long as may be. */
    private static void muchAtOnce() {
        for (int waiting = 0; waiting <= 17; waiting++) {
            StringBuilder e = new StringBuilder("f ( n - 1 )");
            for (int i = 0; i < waiting; i++) {
                e.insert(0, "1 + 1 * ( ").append(" )");
            }
            FlatHouse x = House.puts("fun f ( int n ) int { if n < 1 { return 0 ; } return " + e + " ; }", "out f ( 28 ) ;", 28 * waiting);
            House.due("result(8)", x.result(8), 30);
        }
        StringBuilder sum = new StringBuilder("fun f(){out 1");
        while (sum.length() < 2998) {
            sum.append("+1");
        }
        sum.setLength(2997);
        FlatHouse x = House.puts(sum + " ;}", 1 + (2997 - 13) / 2);
        House.due("count(3)", x.count(3), 6 + 2985 + 2);
    }

    private static void outputs() {
        FlatHouse x = House.with("fun f ( ) { int i = 0 ; while i < 150 { out i * i ; i = i + 1 ; } } fun g ( ) { out - 1 ; out #ffc00000 ; out - ( 1 as long ) ; }");
        House.due("run", x.run(0, 5, 4000), 0);
        House.due("result(3)", x.result(3), 150);
        House.due("result(1)", x.result(1), 1 + 151 + 300);
        House.due("output(0)", x.output(0), 0);
        House.due("output(99)", x.output(99), 9801);
        House.due("output(100)", x.output(100), 0);
        House.due("output(-1)", x.output(-1), 0);
        House.due("run", x.run(1, 5, 3), 0);
        House.due("result(1)", x.result(1), 3);
        House.due("output(0)", x.output(0), -1);
        House.due("output(1)", x.output(1), 0xffc00000);
        House.due("output(2)", x.output(2), -1);
        House.due("output(3)", x.output(3), 0);
        House.due("output(99)", x.output(99), 0);
        House.due("policy(1, 1, 1)", x.policy(1, 1, 1), true);
        House.due("output(0) behind policy", x.output(0), 0);
        House.due("result(3) behind policy", x.result(3), -1);
    }
}
