/** Promises 4 and 5: what FAULT a text has, and where (the mark @ is ahead of its place). */
public final class FaultTest {
    private static final String KINDS = "class C { int n ; C next ; } value V { int x ; byte y ; } value R { R up ; long w ; } "
            + "global int gi ; global long gl ; global float gf ; global any ga ; global C gc ; global V gv ; "
            + "fun none ( ) { } fun two ( int a , V! v ) V { return v ; } ";

    public static void main(String[] args) {
        cantStand();
        thereAlready();
        noneThere();
        tooManyInText();
        tooManyLocals();
        tooDeep();
        tooDeepInStatements();
        unfitTypes();
        unfitEs();
        unfitOperations();
        unfitCalls();
        unfitStatements();
        order();
        sound();
        House.finish();
    }

    private static void body(int fault, String statements) {
        House.faulty(fault, KINDS + "fun main ( int p , any q , V! r ) { " + statements + " }");
    }

    private static void good(String statements) {
        House.sound(KINDS + "fun main ( int p , any q , V! r ) { " + statements + " }");
    }

    private static String times(int many, String part) {
        StringBuilder all = new StringBuilder();
        for (int i = 0; i < many; i++) {
            all.append(part);
        }
        return all.toString();
    }

    private static String numbered(int many, String part) {
        StringBuilder all = new StringBuilder();
        for (int i = 0; i < many; i++) {
            all.append(part.replace("?", Integer.toString(i)));
        }
        return all.toString();
    }

    private static void cantStand() {
        House.faulty("class A { }", 1, 11);
        House.faulty("global int g ;", 1, 14);
        House.faulty(1, "fun f ( ) { } @class A { }");
        House.faulty(1, "fun f ( ) { } @global int g ;");
        House.faulty(1, "global int g ; @value A { } fun f ( ) { }");
        House.faulty(1, "class @{ } fun f ( ) { }");
        House.faulty(1, "class A @; fun f ( ) { }");
        House.faulty(1, "class A { int @; } fun f ( ) { }");
        House.faulty(1, "class A { int x @} fun f ( ) { }");
        House.faulty(1, "class A { int x @, int y ; } fun f ( ) { }");
        House.faulty(1, "class A { @null x ; } fun f ( ) { }");
        House.faulty(1, "class A { int @[ 3 ] x ; } fun f ( ) { }");
        House.faulty(1, "class A { int [ ] @[ ] x ; } fun f ( ) { }");
        House.faulty(1, "global @5 ; fun f ( ) { }");
        House.faulty(1, "fun f @{ }");
        House.faulty(1, "fun f ( @, ) { }");
        House.faulty(1, "fun f ( int a @int b ) { }");
        House.faulty(1, "fun f ( int a , @) { }");
        House.faulty(1, "fun f ( int @, int b ) { }");
        House.faulty(1, "fun f ( ) @; { }");
        House.faulty(1, "fun f ( ) int @int { }");
        House.faulty("fun f ( ) { ", 1, 12);
        body(1, "@;");
        body(1, "@5 = 5 ;");
        body(1, "@{ }");
        body(1, "p @;");
        body(1, "p @5 ;");
        body(1, "gc . @5 = 5 ;");
        body(1, "none ( ) @. x = 5 ;");
        body(1, "none ( @; ");
        body(1, "none ( 1 , @) ;");
        body(1, "int a @; ");
        body(1, "int a = @; ");
        body(1, "int a = 1 @} ");
        body(1, "int a = 1 @) ;");
        body(1, "int a = ( 1 @; ");
        body(1, "int a = ( @) ;");
        body(1, "int a = 1 + @* 2 ;");
        body(1, "int a = 1 < 2 @< 3 ;");
        body(1, "int a = @+ 1 ;");
        body(1, "int a = @! 1 ;");
        body(1, "if p @out 1 ;");
        body(1, "@else { }");
        body(1, "if p { } else @if p { }");
        body(1, "while @{ }");
        body(1, "try { } @}");
        body(1, "try { } catch @{ }");
        body(1, "spawn @( ) ;");
        body(1, "spawn none @; ");
        body(1, "return @) ;");
        body(1, "any a = new @; ");
        body(1, "any a = new C @; ");
        body(1, "any a = new int @( 1 ) ;");
        body(1, "any a = new int [ @] ;");
        body(1, "any a = new int [ 1 @) ;");
        body(1, "any a = new V! [ 1 ] @; ");
        body(1, "any a = new V! @( 1 ) ;");
        body(1, "any a = new V [ 1 ] @( r ) ;");
        body(1, "int a = q is @int ;");
        body(1, "any a = q as @5 ;");
        body(1, "any a = r with @( 5 ) ;");
        body(1, "any a = r with x @5 ;");
        body(1, "V ! @[ p ] = null ;");
    }

    private static void thereAlready() {
        House.faulty(2, "class A { } value @A { } fun f ( ) { }");
        House.faulty(2, "class A { int x ; long @x ; } fun f ( ) { }");
        House.sound("class A { int x ; } class B { int x ; int A ; } fun f ( ) { }");
        House.faulty(2, "global int g ; global any @g ; fun f ( ) { }");
        House.sound("class g { } global int g ; fun g ( ) { }");
        House.faulty(2, "fun f ( ) { } fun @f ( int a ) { }");
        House.faulty(2, "fun f ( int a , long @a ) { }");
        body(2, "int @p = 1 ;");
        body(2, "int a = 1 ; long @a = gl ;");
        body(2, "int a = 1 ; if a { int @a = 2 ; }");
        body(2, "int a = 1 ; try { } catch @a { }");
        body(2, "try { } catch e { int @e = 1 ; }");
        body(2, "int @p = zzz ;");
        good("if p { int a = 1 ; } else { int a = 2 ; } int a = 3 ; try { int e = 1 ; } catch e { } int e = 4 ;");
        good("int gi = gi ; any V = q ; int main = 1 ;");
    }

    private static void noneThere() {
        House.faulty(3, "class A { @B b ; } class B { } fun f ( ) { }");
        House.sound("class A { A a ; A [ ] b ; } fun f ( ) { }");
        House.faulty(3, "global @A a ; fun f ( ) { }");
        House.faulty(3, "fun f ( @A a ) { }");
        House.faulty(3, "fun f ( ) @A { }");
        House.faulty(3, "fun f ( ) { @g ( ) ; } fun g ( ) { }");
        House.sound("fun f ( ) { f ( ) ; } fun g ( ) int { f ( ) ; return g ( ) ; }");
        House.faulty(3, "fun f ( ) { spawn @x ; }");
        House.faulty(3, "fun f ( ) { spawn @x }");
        body(3, "@zz = 1 ;");
        body(3, "@zz [ 1 ] = 1 ;");
        body(3, "@zz");
        body(3, "@zz zz = null ;");
        body(3, "@p a = null ;");
        body(3, "@zz ! a = null ;");
        body(3, "@zz [ ] a = null ;");
        body(3, "out @zz ;");
        body(3, "out @V ;");
        body(3, "out @zz ( ) ;");
        body(3, "@p ( ) ;");
        body(3, "int a = @a ;");
        body(3, "if p { int a = 1 ; } out @a ;");
        body(3, "try { int a = 1 ; } catch e { out @a ; }");
        body(3, "try { } catch e { } out @e ;");
        body(3, "out gc . @zz ;");
        body(3, "gc . @zz = 1 ;");
        body(3, "out gc . next . @x ;");
        body(3, "any a = r with @n ( 1 ) ;");
        body(3, "out q is @zz ;");
        body(3, "out q is @q ;");
        body(3, "any a = q as @zz ;");
        body(3, "any a = new @zz ( ) ;");
        body(3, "any a = new @zz [ 1 ] ;");
        body(3, "any a = new @zz ;");
    }

    private static void tooManyInText() {
        String eight = numbered(8, "class A? { } ");
        House.sound(eight + "fun f ( ) { }");
        House.faulty(4, eight + "@value A8 { } fun f ( ) { }");
        House.faulty(4, eight + "@class");
        House.sound("class A { int a ; int b ; int c ; int d ; } fun f ( ) { }");
        House.faulty(4, "class A { int a ; int b ; int c ; int d ; int @a ; } fun f ( ) { }");
        House.faulty(1, "class A { int a ; int b ; int c ; int d ; int @; } fun f ( ) { }");
        String six = numbered(6, "global int g? ; ");
        House.sound(six + "fun f ( ) { }");
        House.faulty(4, six + "@global");
        String ten = numbered(10, "fun f? ( ) { } ");
        House.sound(ten);
        House.faulty(4, ten + "@fun");
        House.sound("fun f ( int a , int b , int c ) { }");
        House.faulty(4, "fun f ( int a , int b , int c , int @a ) { }");
        House.faulty(1, "fun f ( int a , int b , int c , @) { }");
        House.faulty(3, "fun f ( int a , int b , int c , @A d ) { }");
    }

    private static void tooManyLocals() {
        String five = numbered(5, "int l? = ? ; ");
        good(five);
        body(4, five + "int @l9 = 9 ;");
        body(4, five + "int @l0 = 9 ;");
        body(4, five + "if p { int @l9 = 9 ; }");
        body(4, five + "try { } catch @e { }");
        body(1, five + "int @= 9 ;");
        good("if p { " + five + " } " + five);
        good("try { int a = 1 ; int b = 2 ; int c = 3 ; int d = 4 ; } catch e { int a = 1 ; int b = 2 ; int c = 3 ; int d = 4 ; }");
    }

    private static void tooDeep() {
        House.sound("fun f ( ) { int a = " + times(18, "( ") + "1" + times(18, ") ") + " ; }");
        House.faulty(4, "fun f ( ) { int a = " + times(19, "( ") + "@1" + times(19, ") ") + " ; }");
        House.faulty(4, "fun f ( ) { int a = " + times(19, "( ") + "@zz" + times(19, ") ") + " ; }");
        House.faulty(1, "fun f ( ) { int a = " + times(19, "( ") + "@; }");
        House.sound("fun f ( ) { int a = " + times(18, "- ") + "1 ; }");
        House.faulty(4, "fun f ( ) { int a = " + times(19, "- ") + "@1 ; }");
        House.faulty(4, "fun f ( ) { int a = " + times(19, "not ") + "@- 1 ; }");
        House.faulty(1, "fun f ( ) { int a = " + times(19, "not ") + "@* 1 ; }");
        House.faulty(4, "fun f ( ) { int a = " + times(9, "- ( ") + "- @1 ; }");
        House.sound("fun f ( ) { int a = " + times(9, "- ( ") + "1" + times(9, ") ") + "; }");
        House.sound("fun f ( ) " + times(19, "{ if 1 ") + "{ " + times(20, "} "));
        House.faulty(4, "fun f ( ) " + times(19, "{ if 1 ") + "{ out @1 ; " + times(20, "} "));
        House.faulty(4, "fun f ( ) " + times(19, "{ while 1 ") + "{ if @1 { } " + times(20, "} "));
        House.faulty(4, "fun f ( ) " + times(19, "{ try ") + "{ try @{ } catch");
        House.faulty(1, "fun f ( ) " + times(19, "{ try ") + "{ try @catch");
        House.faulty(4, "fun f ( int a ) int { return " + times(19, "f ( ") + "@1");
        House.faulty(4, "fun f ( int [ ] a ) { a [ " + times(18, "a [ ") + "a [ @1");
        House.sound("fun f ( int [ ] a ) { a [ " + times(17, "a [ ") + "a [ 1 ] ] " + times(17, "] ") + "= 1 ; }");
        House.faulty(4, "value V { any a ; } fun f ( ) { any a = " + times(19, "new V ( ") + "@null");
        House.faulty(4, "value V { V a ; } fun f ( V v ) { v = " + times(19, "v with a ( ") + "@v");
    }

    /** In nineteen BLOCKS the E of a STATEMENT is the twentieth, an E or BLOCK in it one too many. */
    private static void tooDeepInStatements() {
        String open = "class C { int n ; } value V { int x ; } fun g ( int a ) int { } fun f ( int [ ] a , C c , V v ) int " + times(18, "{ if 1 ") + "{ ";
        String close = " " + times(19, "} ");
        String[] good = {"int b = 1 ;", "a [ 1 ] = 1 ;", "c . n = 1 ;", "return 1 ;", "out 1 ;", "fail 1 ;", "spawn g ( 1 ) ;", "g ( 1 ) ;",
            "if 1 { } else { }", "while 1 { }", "lock c { }", "try { } catch e { }"};
        for (String statement : good) {
            House.sound(open + statement + close);
        }
        House.faulty(4, "value V { any a ; } fun f ( V v ) { any a = " + times(18, "new V ( ") + "new V ! [ @1 ] ( v )");
        House.faulty(4, "value V { any a ; } fun f ( V v ) { any a = " + times(17, "new V ( ") + "new V ! [ 1 ] ( ( @v ) )");
        House.sound("value V { any a ; } fun f ( V v ) { any a = " + times(17, "new V ( ") + "new V ! [ 1 ] ( v ) " + times(17, ") ") + "; }");
        String[] deep = {"int b = ( @1 ) ;", "int b = - @1 ;", "a [ ( @1 ) ] = 1 ;", "a [ 1 ] = ( @1 ) ;", "c . n = not @1 ;", "return ( @1 ) ;",
            "out ( @1 ) ;", "out - @1 ;", "fail ( @1 ) ;", "spawn g ( - @1 ) ;", "g ( - @1 ) ;", "out g ( @1 ) ;", "g ( 1 , ( @1 ) ) ;", "if ( @1 ) { }", "while ( @1 ) { }",
            "lock ( @c ) { }", "out hash @c ;", "out len @a ;", "out a [ @1 ] ;", "v = v with x ( @1 ) ;", "v = new V ( @1 ) ;", "a = new int [ @1 ] ;",
            "lock new V ! [ @1 ] ( v ) { }", "if 1 { lock @new V ! [ 1 ] ( v ) { } }",
            "if 1 { out @1 ; }", "if 1 { } else { out @1 ; }", "if 1 { if @1 { } }", "while 1 { fail @1 ; }", "lock c { return @1 ; }",
            "try { g ( @1 ) ; } catch e { }", "try { } catch e { spawn g ( @1 ) ; }", "if 1 { try @{ } catch e { } }", "if 1 { int b = @1 ; }",
            "if 1 { a [ @1 ] = 1 ; }", "if 1 { c . n = @1 ; }", "if 1 { lock @c { } }", "if 1 { while @1 { } }"};
        for (String statement : deep) {
            House.faulty(4, open + statement + close);
        }
    }

    private static void unfitTypes() {
        House.faulty(5, "class A { int @! x ; } fun f ( ) { }");
        House.faulty(5, "class A { any @! x ; } fun f ( ) { }");
        House.faulty(5, "class A { A @! x ; } fun f ( ) { }");
        House.faulty(5, "value A { A @! x ; } fun f ( ) { }");
        House.sound("value A { A ! [ ] x ; A y ; } fun f ( ) { }");
        House.faulty(5, "value A { A @! [ 5 ] x ; } fun f ( ) { }");
        House.faulty(5, "value A { A @! 5 ; } fun f ( ) { }");
        House.faulty(5, "class A { } class B { A @! [ ] x ; } fun f ( ) { }");
        House.sound("value A { } class B { A ! x ; A ! [ ] y ; } value C { A ! x ; } fun f ( A ! a ) A ! { return a ; }");
        House.faulty(5, "value A { } global A @! a ; fun f ( ) { }");
        House.sound("value A { } global A ! [ ] a ; fun f ( ) { }");
        House.faulty(5, "fun f ( float @! a ) { }");
        House.faulty(5, "fun f ( ) long @! [ ] { }");
        body(5, "C @! a = null ;");
        body(5, "any a = q as C @! ;");
        body(5, "any a = q as int @! [ ] ;");
        body(5, "any a = new C @! [ 1 ] ( gc ) ;");
    }

    private static void unfitEs() {
        body(5, "int a = @gl ;");
        body(5, "int a = @- gl * gl ;");
        body(5, "int a = @null ;");
        body(5, "byte a = @gf ;");
        body(5, "long a = @1 ;");
        body(5, "float a = @1 ;");
        body(5, "float a = @gl ;");
        body(5, "any a = @1 ;");
        body(5, "C a = @q ;");
        body(5, "C a = @gv ;");
        body(5, "V a = @q ;");
        body(5, "V ! a = @null ;");
        body(5, "V a = @new R ( null , gl ) ;");
        body(5, "int [ ] a = @new byte [ 1 ] ;");
        body(5, "V [ ] a = @new V ! [ 1 ] ( r ) ;");
        body(5, "V ! [ ] a = @new V [ 1 ] ;");
        body(5, "any [ ] a = @new C [ 1 ] ;");
        body(5, "C a = @new C [ 1 ] ;");
        good("byte a = 300 ; int b = a ; any c = null ; c = gc ; c = r ; c = new int [ 1 ] ; ");
        good("V a = null ; a = r ; V ! b = a ; b = gv ; V ! [ ] c = null ; c = new V ! [ 1 ] ( a ) ; any [ ] d = null ;");
        body(5, "p = @gl ;");
        body(5, "gl = @p ;");
        body(5, "gc . n = @gf ;");
        body(5, "gc . next = @q ;");
        body(5, "any [ ] a = new any [ 2 ] ; a [ @gl ] = q ;");
        body(5, "any [ ] a = new any [ 2 ] ; a [ 0 ] = @p ;");
        body(5, "any [ ] a = new any [ 2 ] ; q = a [ @null ] ;");
        body(5, "any [ ] a = new any [ @gl ] ;");
        body(5, "V ! [ ] a = new V ! [ 1 ] ( @null ) ;");
        body(5, "V ! [ ] a = new V ! [ 1 ] ( @q ) ;");
        body(5, "gv = r with x ( @gl ) ;");
        body(5, "q = new V ( 1 , @gl ) ;");
        body(5, "q = new R ( @gv , gl ) ;");
        good("q = new V ( 1 , 2 ) ; q = new C ( 1 , null ) ; q = new R ( new R ( null , gl ) , gl ) ;");
        body(5, "if @gl { }");
        body(5, "if @q { }");
        body(5, "while @gf { }");
        body(5, "fail @gl ;");
        body(5, "out @q ;");
        body(5, "out @null ;");
        good("out p ; out gl ; out gf ; fail p ; lock q { } lock r { } lock null { }");
        body(5, "lock @p { }");
    }

    private static void unfitOperations() {
        body(5, "out @- q ;");
        body(5, "out @not gl ;");
        body(5, "out @not q ;");
        body(5, "out @len q ;");
        body(5, "out @len gc ;");
        body(5, "out @len null ;");
        body(5, "out @hash p ;");
        good("out - gl ; out - gf ; out not p ; out len new int [ 1 ] ; out hash q ; out hash null ; out hash r ;");
        body(5, "out p @. zz ;");
        body(5, "out q @. zz ;");
        body(5, "out null @. zz ;");
        body(5, "out new C [ 1 ] @. n ;");
        body(5, "out q @[ zz ] ;");
        body(5, "out gc @[ 0 ] ;");
        body(5, "p @. x = 1 ;");
        body(5, "p @[ zz ] = 1 ;");
        body(5, "gc @[ zz ] = 1 ;");
        body(5, "out p @is zz ;");
        body(5, "out p @is 5 ;");
        body(5, "out p @with zz ;");
        body(5, "out gc @with n ( 1 ) ;");
        body(5, "out q @with x ( 1 ) ;");
        body(5, "out p @as any ;");
        body(5, "out p @as V ! ;");
        body(5, "out q @as int ;");
        body(5, "out gv @as float ;");
        body(5, "out null @as long ;");
        good("out p as byte ; out gf as float ; any a = null as V ! ; a = q as int [ ] ; a = gc as V ; a = r as V ; out null is C ;");
        body(5, "out p @== gl ;");
        body(5, "out p @== q ;");
        body(5, "out q @< q ;");
        body(5, "out p @< gf ;");
        body(5, "out p @+ gl ;");
        body(5, "out q @+ q ;");
        body(5, "out p @- null ;");
        body(5, "out p @* gf ;");
        body(5, "out gf @% gf ;");
        body(5, "out gf @/ gl ;");
        body(5, "out p + p @* gl ;");
        body(5, "out p @+ gl * gl ;");
        body(5, "out p + p @+ gl + gl ;");
        good("out null == null ; out gc == r ; out gf == gf ; out gl < gl ; out gl % gl ; out p % p ; out gf / gf ;");
    }

    private static void unfitCalls() {
        body(5, "@none ( 1 ) ;");
        body(5, "@two ( 1 ) ;");
        body(5, "@two ( ) ;");
        body(5, "@two ( 1 , r , 3 ) ;");
        body(5, "two ( @gl ) ;");
        body(5, "two ( 1 , @null ) ;");
        body(5, "@two ( 1 , r , null , 5 ) ;");
        body(3, "two ( 1 , r , @zz ) ;");
        body(1, "two ( 1 @r ) ;");
        body(1, "two ( 1 @; ");
        body(5, "out @none ( ) ;");
        body(5, "out @none ( 1 ) ;");
        body(5, "out 1 + @none ( ) ;");
        body(5, "two ( @none ( ) , r ) ;");
        body(5, "out ( @none ( ) ) . zz ;");
        body(1, "out none ( @; ");
        body(5, "spawn @none ( 1 ) ;");
        body(5, "spawn @two ( 1 ) ;");
        body(5, "spawn two ( @q , r ) ;");
        good("two ( 1 , r ) ; gv = two ( 1 , gv ) ; spawn none ( ) ; spawn two ( 1 , gv ) ; none ( ) ;");
        body(5, "q = new @C ( 1 ) ;");
        body(5, "q = new @C ( ) ;");
        body(5, "q = new @C ( 1 , gc , 2 ) ;");
        body(5, "q = new C ( @q ) ;");
        body(1, "q = new C ( 1 , gc @; ");
    }

    private static void unfitStatements() {
        body(5, "@return 1 ;");
        body(3, "return @zz ;");
        good("return ;");
        House.faulty(5, "fun f ( ) int { @return ; }");
        House.faulty(5, "fun f ( ) int { return @null ; }");
        House.faulty(5, "value V { } fun f ( ) V ! { return @null ; }");
        House.faulty(5, "fun f ( ) long { return @1 ; }");
        House.sound("value V { } fun f ( V v ) V ! { return v ; } fun g ( ) V { return null ; } fun h ( ) byte { return 1000 ; }");
        body(5, "gv . x @= 1 ;");
        body(5, "r . x @= zz ;");
        body(5, "V [ ] a = null ; a [ 0 ] . x @= 1 ;");
        body(1, "r . x @; ");
        good("gc . n = 1 ; gc . next . next = null ; V [ ] a = null ; a [ gc . n ] = null ; gv = null ; r = r ;");
        House.faulty(5, "value V { int [ ] a ; } fun f ( V v ) { v . a @= null ; }");
        House.sound("class C { int n ; } value V { int [ ] a ; C c ; } fun f ( V v ) { v . a [ 0 ] = 1 ; v . c . n = 1 ; }");
    }

    /** The FAULT is the first that is met. */
    private static void order() {
        body(5, "int a = @null zz");
        body(5, "out 1 @+ null zz");
        body(5, "out @hash 1 zz");
        body(3, "out @zz yy");
        body(2, "int @p ?");
        body(3, "@zz ?");
        body(5, "if @null ?");
        body(5, "gv . x @= ?");
        body(5, "out p @. ?");
        body(5, "@two ( 1 ) ?");
        body(1, "out q as @?");
        body(5, "out q @as int ?");
        House.faulty(5, "value A { A @! ? } fun");
        House.faulty(5, "value A { } global A @! ?");
        House.faulty(5, "value A { } global A @! [");
        House.faulty(5, "fun f ( int @! ?");
        // What is told of the left alone is ahead of all behind the word, be it no word or nothing.
        for (String behind : new String[] {"?", "", ";", "zz", "5"}) {
            String open = KINDS + "fun main ( int p , any q , V! r ) { out ";
            House.faulty(5, open + "p @. " + behind);
            House.faulty(5, open + "q @[ " + behind);
            House.faulty(5, open + "p @is " + behind);
            House.faulty(5, open + "q @with " + behind);
        }
        // All other operations are told when they are complete.
        body(1, "out null + @?");
        body(3, "out null + @zz");
        body(5, "out null @+ 1 ?");
        body(1, "out null < @?");
        body(5, "out null @< 1 ?");
        body(1, "out 1 == @?");
        body(5, "out 1 @== null ?");
        body(1, "out - @?");
        body(3, "out - @zz");
        body(5, "out @- null ?");
        body(1, "out p as @?");
        body(3, "out p as @zz");
        body(5, "out p @as V ?");
        body(1, "none ( 1 @?");
        body(3, "none ( @zz");
        body(1, "none ( @?");
        body(3, "out none ( @zz )");
        body(1, "out none ( @?");
        body(1, "out none ( 1 @?");
        body(5, "out @none ( 1 ) ?");
        body(1, "q = new C ( 1 @?");
        body(5, "q = new @C ( 1 ) ?");
        body(1, "return @?");
        body(5, "@return 1 ?");
        body(5, "@return null ?");
        body(5, "return 1 @+ null ?");
        body(1, "gc . n @?");
        body(1, "gv . x @?");
        body(1, "int a @?");
        body(5, "int a = @gl ?");
        body(5, "two ( @null ?");
        body(5, "q = new V ! [ @null ?");
        body(5, "q = new V ! [ 1 ] ( @null ?");
        body(5, "q = r with x ( @null ?");
        body(5, "lock @1 ?");
        body(5, "out @null ?");
        body(5, "fail @null ?");
        body(5, "while @null ?");
        House.faulty(5, "fun f ( ) int { @return ; ?");
    }

    private static void sound() {
        good("C [ ] a = null ; C b = null ; V ! c = r ; int [ ] d = new int [ 3 ] ; d [ 0 ] = 1 ;");
        good("q = new V ! [ 3 ] ( r ) [ 0 ] ; out new int [ 3 ] [ 0 ] ; out new V ( 1 , 2 ) . x ; out ( q as V [ ] ) [ 0 ] . x ;");
        good("out q as V [ ] [ 0 ] . x ; out - - p ; out not len new int [ 1 ] ;");
        good("out 1 + 2 * 3 - 4 / 5 % 6 < 7 ; out r with x ( 1 ) with y ( 2 ) . x ; out q as V is V ;");
        good("if p { } else { } while p { } lock q { } try { } catch e { } return ;");
        House.sound("fun f(){}");
        House.sound("\n\n fun\nf\n(\n)\n{\n}\n\n");
    }
}
