import java.util.Random;

/** Any calls in any state: nothing is thrown but what the document says, and answers stay within it. */
public final class AnyCallTest {
    private static final String[] PROGRAMS = {
        "value V { int x ; V u ; } class C { V v ; C n ; any a ; byte b ; } global C c ; global V v ; global any [ ] a ; global long l ; "
            + "fun f ( int n ) int { if n < 1 { return 0 ; } c = new C ( v , c , a , n ) ; v = new V ( n , v ) ; a [ n % 5 ] = c ; return f ( n - 1 ) + 1 ; } "
            + "fun h ( ) { lock c { fail 3 ; } } fun g ( ) { a = new any [ 5 ] ; spawn h ( ) ; int i = 0 ; while 1 { i = i + f ( 7 ) ; out i ; } }",
        "value P { byte a ; long b ; } value Q { P ! p ; P r ; } global Q [ ] q ; global Q ! [ ] w ; global P p ; "
            + "fun m ( Q q , int n ) Q ! { return q with r ( new P ( n , n as long ) ) ; } "
            + "fun t ( ) { Q z = new Q ( new P ( 1 , 2 as long ) , null ) ; q = new Q [ 9 ] ; w = new Q ! [ 9 ] ( z ) ; int i = 0 ; "
            + "while i < 9 { q [ i ] = m ( z , i ) ; w [ i ] = q [ i ] ; out hash w [ i ] ; i = i + 1 ; } try { out q [ i ] . p . a ; } catch e { out e ; } }",
        "class K { } global float f ; global int n ; global K k ; fun w ( ) { while n < 50 { lock k { n = n + 1 ; f = f + #3f800000 / ( n as float ) ; out f ; } } } "
            + "fun main ( ) { k = new K ( ) ; spawn w ( ) ; spawn w ( ) ; spawn w ( ) ; spawn w ( ) ; w ( ) ; }",
    };
    private static final String[] WORDS = (
        "class value global fun byte int long float any null new if else while return out lock spawn try catch fail len hash not is as with "
        + "{ } ( ) [ ] , ; . ! = == < + - * / % f g n v c a V C P Q 1 0 7 2147483648 #0 #7f800000 # @ abcdefghij").split(" ");

    private static final Random random = new Random(7);

    public static void main(String[] args) {
        for (String text : PROGRAMS) {
            House.sound(text);
        }
        for (int round = 0; round < 400; round++) {
            FlatHouse x = new FlatHouse();
            for (int i = 0; i < 512; i++) {
                oneCall(x);
            }
        }
        House.finish();
    }

    private static int number() {
        switch (random.nextInt(6)) {
            case 0: return random.nextInt();
            case 1: return random.nextInt(3) - 1;
            case 2: return random.nextInt(40) - 4;
            default: return random.nextInt(8);
        }
    }

    private static void oneCall(FlatHouse x) {
        switch (random.nextInt(20)) {
            case 0: x.feed(random.nextInt(), number(), 0x20202020, 0x66756e20, number()); break;
            case 1: x.end(number()); break;
            case 2: read(x); break;
            case 3: within("fault", x.fault(number()), -1, 3000); break;
            case 4: within("count", x.count(number()), -1, 3000); break;
            case 5: x.policy(number(), number(), number()); break;
            case 6: x.policy(random.nextInt(33), random.nextInt(8), random.nextInt(17)); break;
            case 7: within("type", x.type(number(), number()), -1, 1 << 20); break;
            case 8: within("slot", x.slot(number(), number(), number()), -1, 300); break;
            case 9: within("element", x.element(number(), number()), -1, 32); break;
            case 10: within("fun", x.fun(number(), number()), -1, 200); break;
            case 11: case 12: case 13: run(x); break;
            case 14: within("result", x.result(number()), -1, 1 << 24); break;
            case 15: x.output(number()); break;
            case 16: x.thread(number(), number()); break;
            case 17: case 18: within("image", x.image(), -1, 60000); break;
            default: within("byteAt", x.byteAt(number()), -1, 255);
        }
    }

    private static void within(String call, int got, int least, int most) {
        if (got < least || got > most) {
            House.due(call, got, least);
        }
    }

    private static void run(FlatHouse x) {
        int k = number();
        int steps = random.nextInt(4) == 0 ? number() : 1 + random.nextInt(600);
        int parameters = x.fun(k, 0);
        int due = x.count(2) == 0 ? 1 : parameters != 0 || steps < 1 || steps > 4000 ? 2 : 0;
        int met = 0;
        try {
            within("run", x.run(k, random.nextInt(), steps), 0, 2);
        } catch (IllegalStateException e) {
            met = 1;
        } catch (IllegalArgumentException e) {
            met = 2;
        }
        House.due("run(" + k + ", .., " + steps + ") throws", met, due);
    }

    private static void read(FlatHouse x) {
        if (random.nextInt(3) == 0) {
            within("program", x.program(), 0, 5);
            return;
        }
        String text = PROGRAMS[random.nextInt(PROGRAMS.length)];
        if (random.nextInt(2) == 0) {
            String[] words = text.split(" +");
            for (int i = 1 + random.nextInt(3); i > 0; i--) {
                words[random.nextInt(words.length)] = WORDS[random.nextInt(WORDS.length)];
            }
            text = String.join(" ", words);
        }
        x.end(0);
        if (House.tape(x, text)) {
            int fault = x.program();
            within("program", fault, 0, 5);
            House.due("fault(0)", x.fault(0), fault);
            House.due("fault(1) is there", x.fault(1) >= 0, fault != 0);
            House.due("count(2) is there", x.count(2) > 0, fault == 0);
        }
    }
}
