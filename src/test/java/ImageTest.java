/** Promises 16 and 17: image, byteAt. */
public final class ImageTest {
    private static final String EIGHT = "00000000 00000000 ";

    public static void main(String[] args) {
        without();
        numbers();
        objects();
        arrays();
        valuesBehindReferences();
        valuesOfValues();
        flat();
        flatWithReferences();
        reach();
        chain();
        tooLarge();
        again();
        House.finish();
    }

    /** Runs the last FUN, makes the image and looks at all of its bytes. */
    private static void shows(FlatHouse x, String hex) {
        String all = hex.replace(" ", "");
        House.due("run", House.go(x, 1, 4000), 0);
        House.due("thread(0, 0)", x.thread(0, 0), 2);
        int many = x.image();
        House.due("image()", many, all.length() / 2);
        StringBuilder got = new StringBuilder();
        for (int i = 0; i < many; i++) {
            got.append(String.format("%02x", x.byteAt(i)));
        }
        if (!got.toString().equals(all)) {
            House.due("bytes " + got + " where due are " + all, 0, 1);
        }
        House.due("byteAt(-1)", x.byteAt(-1), -1);
        House.due("byteAt at the end", x.byteAt(many), -1);
    }

    private static void without() {
        FlatHouse x = House.with("fun f ( ) { }");
        House.due("image() ahead of a run", x.image(), -1);
        House.due("byteAt(0) ahead of a run", x.byteAt(0), -1);
        shows(x, EIGHT);
    }

    private static void numbers() {
        shows(House.with("global byte b ; global int i ; global long l ; global float f ; fun main ( ) { b = 254 ; i = 16909060 ; l = - ( 2 as long ) ; f = #3f8000ff ; }"),
                EIGHT + "ffffffff fffffffe 01020304 3f8000ff fe000000 00000000");
    }

    private static void objects() {
        shows(House.with("value X { } class C { int n ; C next ; byte b ; } global C c ; fun main ( ) { any lost = new C ( 9 , null , 9 ) ; c = new C ( 5 , new C ( 6 , null , 1 ) , 2 ) ; }"),
                EIGHT + "00000028 00000000 "
                + "00010000 00000000 00000006 00000000 01000000 00000000 "
                + "00010000 00000000 00000005 00000010 02000000 00000000");
        shows(House.with("class C { C me ; } global any c ; fun main ( ) { C d = new C ( null ) ; d . me = d ; c = d ; }"),
                EIGHT + "00000010 00000000 00000000 00000000 00000010 00000000");
        shows(House.with("class O { } global any c ; fun main ( ) { c = new O ( ) ; }"),
                EIGHT + "00000010 00000000 00000000 00000000");
    }

    private static void arrays() {
        shows(House.with("global byte [ ] b ; global long [ ] l ; global any a ; fun main ( ) { a = new float [ 0 ] ; l = new long [ 1 ] ; l [ 0 ] = 7 as long ; b = new byte [ 3 ] ; b [ 1 ] = 255 ; b [ 2 ] = 1 ; }"),
                EIGHT + "00000030 00000020 00000018 00000000 "
                + "01030000 00000000 "
                + "01020000 00000001 00000000 00000007 "
                + "01000000 00000003 00ff0100 00000000");
        shows(House.with("class C { } global C [ ] c ; fun main ( ) { c = new C [ 3 ] ; c [ 1 ] = new C ( ) ; c [ 2 ] = c [ 1 ] ; }"),
                EIGHT + "00000010 00000000 01050000 00000003 00000000 00000028 00000028 00000000 00000000 00000000");
    }

    /** With the POLICY 0, 0, 0 each value stands behind what it is in, each time for itself. */
    private static void valuesBehindReferences() {
        String v = "value V { byte y ; int x ; } ";
        shows(House.with(v + "global V v ; global any a ; global V n ; fun main ( ) { v = new V ( 2 , 1 ) ; a = v ; }"),
                EIGHT + "00000018 00000028 00000000 00000000 "
                + "00000000 00000000 00000001 02000000 00000000 00000000 00000001 02000000");
        shows(House.with(v + "class C { V ! v ; } global V [ ] v ; global C c ; fun main ( ) { c = new C ( new V ( 3 , 4 ) ) ; v = new V [ 2 ] ; v [ 1 ] = c . v ; }"),
                EIGHT + "00000030 00000010 "
                + "00010000 00000000 00000020 00000000 "
                + "00000000 00000000 00000004 03000000 "
                + "01050000 00000002 00000000 00000040 00000000 00000000 00000004 03000000");
    }

    private static void valuesOfValues() {
        shows(House.with("value R { R up ; int n ; any a ; } global R r ; global any b ; fun main ( ) { r = new R ( new R ( null , 1 , null ) , 2 , new R ( null , 3 , null ) ) ; b = new R ( null , 4 , null ) ; }"),
                EIGHT + "00000010 00000058 "
                + "00000000 00000000 00000028 00000002 00000040 00000000 "
                + "00000000 00000000 00000000 00000001 00000000 00000000 "
                + "00000000 00000000 00000000 00000003 00000000 00000000 "
                + "00000000 00000000 00000000 00000004 00000000 00000000");
        shows(House.with("value R { R up ; any a ; } global R r ; fun main ( ) { r = new R ( new R ( null , new R ( null , null ) ) , new R ( null , null ) ) ; }"),
                EIGHT + "00000010 00000000 "
                + "00000000 00000000 00000020 00000040 "
                + "00000000 00000000 00000000 00000030 "
                + "00000000 00000000 00000000 00000000 "
                + "00000000 00000000 00000000 00000000");
    }

    private static void flat() {
        FlatHouse x = House.with("value V { byte y ; int x ; } global V v ; global V n ; global V [ ] a ; global V ! [ ] b ; "
                + "fun main ( ) { v = new V ( 2 , 1 ) ; a = new V [ 2 ] ; a [ 1 ] = v ; b = new V ! [ 2 ] ( v ) ; b [ 0 ] = new V ( 255 , 0 ) ; }");
        x.policy(12, 7, 0);
        shows(x, EIGHT
                + "00000001 02000000 01000000 00000000 00000000 00000000 00000028 00000048 "
                + "01050000 00000002 00000000 00000000 00000000 00000001 02000000 01000000 "
                + "01060000 00000002 00000000 ff000000 00000001 02000000");
        x.policy(12, 6, 0);
        shows(x, EIGHT
                + "00000018 00000000 00000028 00000048 "
                + "00000000 00000000 00000001 02000000 "
                + "01050000 00000002 00000000 00000038 00000000 00000000 00000001 02000000 "
                + "01060000 00000002 00000000 ff000000 00000001 02000000");
        x = House.with("value Z { } value Y { Z z ; } global Z z ; global Z n ; global Y y ; global Y [ ] a ; fun main ( ) { z = new Z ( ) ; y = new Y ( z ) ; a = new Y [ 3 ] ; a [ 1 ] = new Y ( null ) ; a [ 2 ] = y ; }");
        x.policy(2, 3, 0);
        shows(x, EIGHT + "00000010 01000101 01070000 00000003 00000001 01010000");
    }

    /** A reference in what is FLAT; what is behind it comes behind the whole, in order of FIELDS. */
    private static void flatWithReferences() {
        FlatHouse x = House.with("value R { R up ; } value P { byte k ; R r ; } class C { int n ; P p ; any a ; } global C c ; "
                + "fun main ( ) { R r = new R ( null ) ; c = new C ( 7 , new P ( 5 , new R ( r ) ) , r ) ; }");
        x.policy(32, 7, 0);
        shows(x, EIGHT + "00000010 00000000 "
                + "00020000 00000000 00000007 00000030 05000000 01000000 00000050 00000000 "
                + "00000000 00000000 00000040 00000000 "
                + "00000000 00000000 00000000 00000000 "
                + "00000000 00000000 00000000 00000000");
    }

    /** Objects in values are reached, too, and stand in the order in which they were made. */
    private static void reach() {
        shows(House.with("class C { any a ; } value W { any a ; } global any g ; fun main ( ) { C first = new C ( null ) ; C lost = new C ( null ) ; C last = new C ( first ) ; lost . a = last ; g = new W ( new W ( last ) ) ; }"),
                EIGHT + "00000010 00000000 "
                + "00010000 00000000 00000020 00000000 "
                + "00010000 00000000 00000040 00000000 "
                + "00000000 00000000 00000000 00000000 "
                + "00000000 00000000 00000030 00000000");
    }

    /** All 200 objects in a chain, each behind the one that was made ahead of it. */
    private static void chain() {
        FlatHouse x = House.with("class C { C next ; int n ; } global C c ; fun main ( ) { int i = 0 ; while i < 200 { c = new C ( c , i ) ; i = i + 1 ; } }");
        House.due("run", House.go(x, 0, 4000), 0);
        House.due("image()", x.image(), 16 + 200 * 16);
        for (int i = 0; i < 200; i++) {
            int at = 16 + 16 * i;
            int before = i == 0 ? 0 : at - 16;
            House.due("next of " + i, x.byteAt(at + 10) << 8 | x.byteAt(at + 11), before);
            House.due("n of " + i, x.byteAt(at + 15), i);
        }
        House.due("the last one's place", x.byteAt(10) << 8 | x.byteAt(11), 16 * 200);
    }

    private static void tooLarge() {
        String chain = "value R { R up ; long a ; long b ; long c ; } global R [ ] r ; "
                + "fun make ( int n ) R { R r = null ; while 0 < n { r = new R ( r , 1 as long , 2 as long , 3 as long ) ; n = n - 1 ; } return r ; } ";
        FlatHouse x = House.with(chain + "fun main ( ) { r = new R [ 38 ] ; R one = make ( 39 ) ; int i = 0 ; while i < len r { r [ i ] = one ; i = i + 1 ; } }");
        House.due("run", House.go(x, 0, 4000), 0);
        House.due("image() of 38 * 39 * 40 bytes and 176", x.image(), 38 * 39 * 40 + 176);
        House.due("the last byte", x.byteAt(38 * 39 * 40 + 175), 0);
        House.due("byteAt(0)", x.byteAt(0), 0);
        x = House.with(chain + "fun main ( ) { r = new R [ 40 ] ; R one = make ( 40 ) ; int i = 0 ; while i < len r { r [ i ] = one ; i = i + 1 ; } }");
        House.due("run", House.go(x, 0, 4000), 0);
        House.due("image() of 40 * 40 * 40 bytes and more", x.image(), -1);
        House.due("byteAt(0)", x.byteAt(0), -1);
        edge(59968, 59968);
        edge(60000, 60000);
        edge(60008, -1);
    }

    /** An IMAGE of so many bytes: 8 + 8 for the GLOBALS, an array of n references, values of 40 bytes behind them. */
    private static void edge(int bytes, int due) {
        int many = 0;
        int length = 0;
        for (int n = 1; n <= 600; n++) {
            int rest = bytes - 16 - 8 - (4 * n + 7) / 8 * 8;
            if (rest % 40 == 0 && rest / 40 <= 36 * n && rest / 40 >= n) {
                many = rest / 40;
                length = n;
                break;
            }
        }
        FlatHouse x = House.with("value R { R up ; long a ; long b ; long c ; } global R [ ] r ; "
                + "fun make ( int n ) R { R r = null ; long l = 5 as long ; while 0 < n { r = new R ( r , l , l , l ) ; n = n - 1 ; } return r ; } "
                + "fun main ( ) { r = new R [ " + length + " ] ; R one = make ( 36 ) ; int left = " + many + " ; int i = 0 ; "
                + "while i < len r { if left - 36 < len r - i - 1 { r [ i ] = make ( left - len r + i + 1 ) ; } else { r [ i ] = one ; } "
                + "if left - 36 < len r - i - 1 { left = len r - i - 1 ; } else { left = left - 36 ; } i = i + 1 ; } }");
        House.due("run", House.go(x, 0, 4000), 0);
        House.due("thread(0, 0)", x.thread(0, 0), 2);
        House.due("image() of " + bytes, x.image(), due);
        House.due("byteAt in the last long", x.byteAt(bytes - 9), due == -1 ? -1 : 5);
    }

    private static void again() {
        FlatHouse x = House.with("global int g ; fun a ( ) { g = 1 ; } fun b ( ) { g = 2 ; } fun c ( int n ) { }");
        x.run(0, 0, 9);
        House.due("byteAt ahead of image()", x.byteAt(11), -1);
        House.due("image()", x.image(), 16);
        House.due("byteAt(11)", x.byteAt(11), 1);
        House.due("policy that answers false", x.policy(99, 0, 0), false);
        House.due("byteAt(11)", x.byteAt(11), 1);
        try {
            x.run(2, 0, 9);
            House.due("run with parameters", 0, 1);
        } catch (IllegalArgumentException e) {
            House.due("byteAt(11) behind a wrong run", x.byteAt(11), 1);
        }
        x.run(1, 0, 9);
        House.due("byteAt behind another run", x.byteAt(11), -1);
        House.due("image()", x.image(), 16);
        House.due("byteAt(11)", x.byteAt(11), 2);
        x.policy(0, 0, 0);
        House.due("byteAt behind policy", x.byteAt(11), -1);
        House.due("image() behind policy", x.image(), -1);
        x.run(1, 0, 9);
        x.image();
        x.program();
        House.due("byteAt behind program", x.byteAt(11), -1);
        House.due("image() behind program", x.image(), -1);
    }
}
