/** Promises 7, 12 to 15: whatever the POLICY, a program does the same; only WORDS differ. */
public final class PolicyTest {
    private static final String TEXT = "value P { int x ; byte y ; } value L { long a ; P p ; P ! q ; } value R { R up ; P p ; any o ; } "
            + "class C { P p ; L l ; R r ; C next ; } class D { P ! p ; L ! l ; byte b ; } "
            + "global P p ; global L l ; global R r ; global C c ; global L [ ] ls ; global P ! [ ] ps ; "
            + "fun mix ( P ! a , L b , R r ) L { if b == null { return new L ( 7 as long , null , a ) ; } return b with q ( a ) with p ( r . p ) ; } "
            + "fun sum ( L [ ] a ) long { long s = 0 as long ; int i = 0 ; while i < len a { try { s = s + a [ i ] . a + ( a [ i ] . q . x as long ) ; } catch e { s = s + ( e as long ) ; } i = i + 1 ; } return s ; } "
            + "fun work ( int n , C c ) { int i = 0 ; while i < 4 { lock c { c . p = new P ( n + i , n ) ; c . l = mix ( c . p , c . l , c . r ) ; out hash c . l ; } i = i + 1 ; } "
            + "ls [ n ] = c . l ; ps [ n ] = c . p ; if n == 2 { out 1 / ( n - 2 ) ; } } "
            + "fun main ( ) { p = new P ( 1 , 300 ) ; ls = new L [ 4 ] ; ps = new P ! [ 4 ] ( p ) ; r = new R ( new R ( null , p , ls ) , null , p ) ; "
            + "c = new C ( null , null , r , null ) ; c . next = c ; spawn work ( 0 , c ) ; spawn work ( 1 , c ) ; spawn work ( 2 , c ) ; "
            + "int i = 0 ; while i < 40 { i = i + 1 ; } lock c { out sum ( ls ) ; out hash new D ( p , mix ( p , null , r ) , 9 ) ; out c . r == r ; out ps [ 1 ] == p ; } }";

    public static void main(String[] args) {
        for (int seed = 1; seed < 6; seed++) {
            FlatHouse x = House.with(TEXT);
            House.due("run", House.go(x, seed, 2000), 0);
            House.due("result(3)", x.result(3), 12 + 4);
            House.due("thread(3, 1)", x.thread(3, 1), 2);
            for (int most = 0; most <= 32; most += 4) {
                for (int bits = 0; bits <= 7; bits++) {
                    FlatHouse y = House.with(TEXT);
                    y.policy(most, bits, most / 2);
                    House.go(y, seed, 2000);
                    alike(x, y, "seed " + seed + " policy " + most + " " + bits);
                    int many = y.image();
                    House.due("image() a multiple of 8", many % 8, 0);
                    House.due("byteAt(many)", y.byteAt(many), -1);
                    House.due("byteAt(many - 1) is there", y.byteAt(many - 1) >= 0, true);
                }
            }
        }
        House.finish();
    }

    private static void alike(FlatHouse x, FlatHouse y, String of) {
        for (int what = 0; what <= 9; what++) {
            if (what != 7) {
                House.due(of + " result(" + what + ")", y.result(what), x.result(what));
            }
        }
        for (int i = 0; i <= 100; i++) {
            House.due(of + " output(" + i + ")", y.output(i), x.output(i));
        }
        for (int t = 0; t < 6; t++) {
            for (int what = 0; what < 3; what++) {
                House.due(of + " thread(" + t + ", " + what + ")", y.thread(t, what), x.thread(t, what));
            }
        }
    }
}
