/** Promises 4, 7, 12 to 17: one object used again and again answers as a new one does. */
public final class AgainTest {
    private static final String[] TEXTS = {
        "class C { int n ; any a ; } value V { int x ; any y ; } global C c ; global V v ; global int [ ] i ; global long l ; "
            + "fun deep ( int n ) int { lock c { try { out hash c ; return 1 + deep ( n + 1 ) ; } catch e { fail e ; } } } "
            + "fun w ( ) { lock c { c . n = c . n + 1 ; while 1 { out c . n ; } } } "
            + "fun a ( ) { c = new C ( 5 , new int [ 7 ] ) ; c . a = c ; v = new V ( hash new C ( 1 , null ) , new V ( hash c , null ) ) ; spawn w ( ) ; spawn w ( ) ; lock c { w ( ) ; } } "
            + "fun b ( ) { i = new int [ 590 ] ; int k = 0 ; while k < 500 { v = new V ( k , v . y ) ; k = k + 1 ; } } "
            + "fun d ( ) { c = new C ( 1 , null ) ; spawn w ( ) ; out deep ( 1 ) ; } "
            + "fun e ( ) { v = new V ( 1 , null ) ; i = new int [ 100 ] ; c = new C ( i [ 99 ] , i ) ; lock c { out hash c + hash v ; } l = 9 as long ; }",
        "value S { S s ; float f ; } global S s ; fun a ( ) { int k = 0 ; while k < 41 { s = new S ( s , #3f800000 ) ; k = k + 1 ; } } fun b ( ) { out hash s ; s = new S ( null , #0 ) ; }",
        "fun a ( ) { } fun b ( ) { out 1 ; } fun c ( ) { fail 5 ; } fun d ( int n ) { }",
        "fun a ( ) { out zz ; }",
        "class O { } value E { } global O o ; global E e ; global E [ ] es ; fun a ( ) { o = new O ( ) ; e = new E ( ) ; es = new E [ 3 ] ; es [ 1 ] = e ; out hash es ; } fun b ( ) { out hash o ; }",
    };

    public static void main(String[] args) {
        FlatHouse used = new FlatHouse();
        for (int i = 0; i < 60; i++) {
            String text = TEXTS[i * 7 % TEXTS.length];
            House.tape(used, text);
            FlatHouse fresh = new FlatHouse();
            House.tape(fresh, text);
            House.due("program() " + i, used.program(), fresh.program());
            used.policy(i % 33, i % 8, i % 17);
            fresh.policy(i % 33, i % 8, i % 17);
            for (int k = 0; k < fresh.count(2); k++) {
                for (int again = 0; again < 2; again++) {
                    FlatHouse other = new FlatHouse();
                    House.tape(other, text);
                    other.program();
                    other.policy(i % 33, i % 8, i % 17);
                    alike(i, used, other, (k * 3 + i) % fresh.count(2));
                }
            }
        }
        House.finish();
    }

    private static void alike(int i, FlatHouse used, FlatHouse fresh, int k) {
        if (fresh.fun(k, 0) != 0) {
            return;
        }
        String of = "text " + i + " FUN " + k + " ";
        House.due(of + "run", used.run(k, i, 300 + i), fresh.run(k, i, 300 + i));
        for (int what = 0; what < 10; what++) {
            House.due(of + "result(" + what + ")", used.result(what), fresh.result(what));
        }
        for (int o = 0; o < 101; o++) {
            House.due(of + "output(" + o + ")", used.output(o), fresh.output(o));
        }
        for (int t = 0; t < 6; t++) {
            for (int what = 0; what < 3; what++) {
                House.due(of + "thread(" + t + ", " + what + ")", used.thread(t, what), fresh.thread(t, what));
            }
        }
        int many = fresh.image();
        House.due(of + "image()", used.image(), many);
        for (int b = 0; b <= many; b++) {
            House.due(of + "byteAt(" + b + ")", used.byteAt(b), fresh.byteAt(b));
        }
    }
}
