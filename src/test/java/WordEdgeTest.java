/** Terms, section 1: the bytes and words of a text at their boundaries and on both sides of them. */
public final class WordEdgeTest {
    private static final String[] KEYWORDS = ("class value global fun byte int long float any null new if else while "
            + "return out lock spawn try catch fail len hash not is as with").split(" ");

    public static void main(String[] args) {
        bytesOfText();
        lengthOfText();
        namesByLength();
        namesByLetters();
        keywords();
        numbers();
        bits();
        longestWords();
        blanks();
        ends();
        House.finish();
    }

    /** "at most 3000 bytes, 10 and 32 .. 126"; "Blanks (32, 10) may stand between". */
    private static void bytesOfText() {
        for (int b = 0; b < 256; b++) {
            String text = "fun f(){}" + (char) b;
            if (b == 10 || b == 32) {
                House.sound(text);
                House.sound("fun" + (char) b + "f(){}");
            } else {
                House.faulty(text, 1, 9);
            }
        }
        // What is no word is so wherever it stands, also where a word of any sort could.
        for (int b = 0; b < 256; b++) {
            boolean word = b >= 32 && b < 127 && (Character.isLetterOrDigit(b) || "{}()[],;.!=<+-*/%".indexOf(b) >= 0);
            if (!word && b != 10 && b != 32) {
                House.faulty("fun f(){int a=" + (char) b, 1, 14);
                House.faulty((char) b + "fun f(){}", 1, 0);
                House.faulty("fun f(){}fun g" + (char) b + "(){}", 1, 14);
            }
        }
    }

    private static void lengthOfText() {
        for (int many = 2998; many <= 3000; many++) {
            String text = "fun f(){}" + " ".repeat(many - 9);
            House.sound(text);
            House.faulty(text.substring(0, many - 1) + "x", 1, many - 1);
            House.faulty("fun f(){" + " ".repeat(many - 8), 1, many);
        }
        // As many words as a text can have.
        House.faulty(";".repeat(3000), 1, 0);
        House.faulty(1, "@?" + ";".repeat(2999));
        House.faulty("fun f(){" + "f();".repeat(748), 1, 3000);
        House.faulty(1, "fun f(){" + "f();".repeat(747) + "}@)))");
        FlatHouse x = House.with("fun f(){" + "f();".repeat(747) + "}   ");
        House.due("count(3)", x.count(3), 6 + 4 * 747);
        x = new FlatHouse();
        House.due("3001 bytes come", House.tape(x, "fun f(){}" + " ".repeat(2992)), false);
        House.due("3000 bytes stay", x.end(3000), true);
        House.due("program() of 3000", x.program(), 0);
    }

    /** "a letter, then letters and digits, at most 8 in all"; of more it is no word, as a whole. */
    private static void namesByLength() {
        String letters = "abcdefghijklmnop";
        for (int many = 1; many <= 16; many++) {
            String name = letters.substring(0, many);
            if (many <= 8) {
                House.sound("fun " + name + "(){" + name + "();}");
                House.sound("class " + name + "{int " + name + ";}global " + name + " " + name + ";fun f(int " + name + "){out " + name + ";}");
            } else {
                House.faulty(1, "fun @" + name + "(){}");
                House.faulty(1, "class @" + name + "{}fun f(){}");
                House.faulty(1, "class C{int @" + name + ";}fun f(){}");
                House.faulty(1, "global int @" + name + ";fun f(){}");
                House.faulty(1, "fun f(){out @" + name + ";}");
                House.faulty(1, "fun f(){@" + name + "=1;}");
            }
        }
        // NAMES are the same only if all eight letters are.
        House.sound("fun abcdefgh(){} fun abcdefgi(){} fun abcdefg(){} fun bbcdefgh(){}");
        House.faulty(2, "fun abcdefgh(){} fun abcdefgi(){} fun @abcdefgh(){}");
    }

    private static void namesByLetters() {
        for (char c = 32; c < 127; c++) {
            boolean letter = c >= 'a' && c <= 'z' || c >= 'A' && c <= 'Z';
            boolean digit = c >= '0' && c <= '9';
            if (letter) {
                House.sound("fun " + c + "(){}");
            } else if (c == ' ') {
                House.sound("fun " + c + "f(){}");
            } else {
                House.faulty(1, "fun @" + c + "(){}");
            }
            if (letter || digit) {
                House.sound("fun b" + c + "(){b" + c + "();}");
            } else if (c != ' ' && c != '(') {
                House.faulty(1, "fun a@" + c + "(){}");
            }
        }
        House.sound("fun a(){} fun A(){} fun a0(){} fun a00(){}");
        House.sound("fun a1234567(){}");
        House.faulty(1, "fun @a12345678(){}");
        House.faulty(1, "fun @1a(){}");
    }

    /** "none of the KEYWORDS"; with a letter more or less, or a greater one, it is a NAME. */
    private static void keywords() {
        for (String k : KEYWORDS) {
            House.faulty(1, "fun @" + k + "(){}");
            House.faulty(1, "fun f(int @" + k + "){}");
            House.sound("fun " + k + "x(){}");
            House.sound("fun " + k + "0(){}");
            House.sound("fun x" + k + "(){}");
            House.sound("fun " + Character.toUpperCase(k.charAt(0)) + k.substring(1) + "(){}");
            if (!k.equals("int") && !k.equals("is") && !k.equals("as")) {
                House.sound("fun " + k.substring(0, k.length() - 1) + "(){}");
            }
        }
        House.sound("fun in(){} fun i(){} fun a(){}");
    }

    /** "digits, at most 2147483647". */
    private static void numbers() {
        House.puts("", "out 0 ; out 1 ; out 2147483646 ; out 2147483647 ; out 00 ; out 007 ; out 02147483647 ;", 0, 1, 2147483646, 2147483647, 0, 7, 2147483647);
        String zeros = "0".repeat(40);
        House.puts("", "out " + zeros + " ; out " + zeros + "2147483647 ;", 0, 2147483647);
        String[] greater = {"2147483648", "2147483650", "2147483700", "3000000000", "4294967295", "4294967296", "10000000000", "9223372036854775807",
            "9223372036854775808", "18446744073709551615", "18446744073709551616", "18446744073709551617", "1" + zeros, zeros + "2147483648"};
        for (String n : greater) {
            House.faulty(1, "fun f(){out @" + n + ";}");
            House.faulty(1, "fun f(){out -@" + n + ";}");
            House.faulty(1, "fun f(){}@" + n);
        }
    }

    /** "# and one to eight of 0 .. 9, a .. f". */
    private static void bits() {
        House.puts("", "out #0 ; out #f ; out #12 ; out #123 ; out #1234 ; out #abcde ; out #abcdef ; out #1234567 ; out #12345678 ; out #ffffffff ; out #80000000 ;",
                0, 15, 0x12, 0x123, 0x1234, 0xabcde, 0xabcdef, 0x1234567, 0x12345678, -1, -2147483648);
        House.puts("", "out #00000001 ; out #01 ;", 1, 1);
        House.faulty(1, "fun f(){out @#123456789;}");
        House.faulty(1, "fun f(){out @#000000000;}");
        House.faulty(1, "fun f(){out @#0123456789abcdef;}");
        House.faulty(1, "fun f(){out @#;}");
        House.faulty("fun f(){out #", 1, 12);
        for (char c = 32; c < 127; c++) {
            boolean hex = c >= '0' && c <= '9' || c >= 'a' && c <= 'f';
            if (hex) {
                House.puts("", "out #" + c + " ;", Character.digit(c, 16));
            } else {
                House.faulty(1, "fun f(){out @#" + c + "1;}");
            }
        }
        // What follows eight is a word of its own if it is none of them.
        House.faulty(1, "fun f(){out #12345678@g;}");
        House.faulty(1, "fun f(){out #12345678@#1;}");
    }

    /** WORDS are "as long as can be". */
    private static void longestWords() {
        House.puts("", "int a=1;int b=1;out a==b;out a==-b;out a<b;", 1, 0, 0);
        House.faulty(1, "fun f(){int a=1;out a==@=1;}");
        House.faulty(1, "fun f(){int a@==1;}");
        House.sound("fun outa(){}fun f(){outa();}");
        House.faulty(3, "fun f(int a){@outa;}");
        House.faulty(3, "fun f(int a){@out1;}");
        House.puts("", "out(1);out#3;out-1;", 1, 3, -1);
        House.faulty(1, "fun f(){out 1@a;}");
        House.faulty(1, "fun f(){out 1@out;}");
        House.faulty(1, "fun f(){out #a@x;}");
        FlatHouse x = House.with("fun f(){int a=1==1;int[]b=new int[3];}");
        House.due("count(3)", x.count(3), 5 + 7 + 11 + 1);
    }

    private static void blanks() {
        FlatHouse tight = House.with("value V{int x;}global V g;fun f(int a)int{if a{g=new V(a);}return-a*2;}");
        FlatHouse wide = House.with("\n value \n V  { int\nx ; } global V g ;\n\n fun f ( int a ) int { if a { g = new V ( a ) ; } return - a * 2 ; } \n");
        House.due("count(3)", wide.count(3), tight.count(3));
        House.due("count(3)", tight.count(3), 7 + 4 + 8 + 12 + 6 + 1);
        House.faulty(1, "@funf(){}");
        House.faulty(3, "fun f(){@in t a=1;}");
        House.faulty(1, "fun f(){out 1 @2;}");
    }

    /** What is missing at the end is told there: "the end at n", with the blanks ahead of it. */
    private static void ends() {
        // Each NAME is a variable's, too, so that nothing but the end is missing behind any word.
        String[] words = ("class C { int n ; any [] a ; } value V { V u ; byte b ; } global V [] V ; global int g ; global int f ; "
                + "fun f ( int a , V ! v ) int { int b = - ( a + 1 ) * 2 ; V [ b ] = new V ( null , 7 ) ; if a < b { out b ; } else { fail 1 ; } "
                + "while 0 { lock V { } } try { spawn f ( 1 , v ) ; } catch e { g = f ( len V , v with b ( 2 ) ) ; } f ( a , v ) ; return g ; }").split(" ");
        StringBuilder text = new StringBuilder();
        for (int i = 0; i < words.length - 1; i++) {
            text.append(words[i]);
            House.faulty(text.toString(), 1, text.length());
            House.faulty(text + " ", 1, text.length() + 1);
            House.faulty(text + " \n ", 1, text.length() + 3);
            text.append(" ");
        }
        House.sound(text + "}");
        House.sound(text + "} \n ");
        House.faulty("", 1, 0);
        House.faulty(" ", 1, 1);
    }
}
