/** Term III, sentence by sentence, each with the boundary cases that it names. */
public final class TextsTest extends Sentences {
    private static final String FIVE = "for 1[if 1[for 1[if 1[for 1[";
    private static final String ENDS = "];];];];];";

    public static void main(String[] args) {
        section("Term III");
        lengths();
        statements();
        sums();
        numbersAndWords();
        blanks();
        latest();
        rounds();
        ints();
        refused();
        refusedAt160();
        conditions();
        steps();
        faults();
        faultsOfBytes();
        faultsOfNumbers();
        faultsOfDepth();
        depths();
        oneBehindAnother();
        whole(1);
        finish();
    }

    /** A text that is done: its STEPS and x. */
    private static void does(String text, int steps, int x) {
        ClashFree object = made(8, 25, 0, 1);
        due("STEPS of " + text, run(object, 0, text), steps);
        due("FAULT of " + text, object.ran(0), 0);
        due("x of " + text, object.ran(4), x);
    }

    private static void lengths() {
        says("A PROGRAM is a text of 600 bytes at most (of a longer one FAULT 1 at 600, DEPTH 0, whatever else it has):");
        String longest = "get 1;".repeat(100);
        due("its bytes", longest.length(), 600);
        does(longest, 100, -1);
        does("let 5;" + " ".repeat(594), 1, 5);
        does("", 0, 0);
        bad(longest + " ", 1, 600, 0);
        bad(longest + "get 1;", 1, 600, 0);
        bad("]" + longest, 1, 600, 0);
        bad("for 201[" + longest, 1, 600, 0);
        bad("for 1[" + longest, 1, 600, 0);
        bad("let (((((((((" + longest, 1, 600, 0);
        bad(" ".repeat(1400), 1, 600, 0);
        bad("]" + longest.substring(1), 1, 0, 0);
    }

    private static void statements() {
        says("{ STATEMENT ; }: put SUM as SUM | drop SUM | get SUM | let SUM | for N [ { STATEMENT ; } ] | if SUM [ { STATEMENT ; } ].");
        does("put 1+1 as 2+2;get 2;", 2, 4);
        does("put 7 as 1;drop 3+4;get 7;", 3, -1);
        does("put 7 as 1;get 3+4;", 2, 1);
        does("let 3;let 4;", 2, 4);
        does("for 2[let 3;let i;];", 6, 1);
        does("for 2[];", 2, 0);
        does("if 1[let 3;let 4;];", 2, 4);
        does("if 1[];", 0, 0);
        bad("let 3", 1, 5, 0);
        bad("let 3;;", 1, 6, 0);
        bad(";", 1, 0, 0);
        bad("put 3;", 1, 5, 0);
        bad("put 3 as;", 1, 8, 0);
        bad("put as 3;", 1, 4, 0);
        bad("put 3 as 4 as 5;", 1, 11, 0);
        bad("drop 3 as 4;", 1, 7, 0);
        bad("drop;", 1, 4, 0);
        bad("get;", 1, 3, 0);
        bad("let;", 1, 3, 0);
        bad("for[];", 1, 3, 0);
        bad("for i[];", 1, 4, 0);
        bad("for x[];", 1, 4, 0);
        bad("for (3)[];", 1, 4, 0);
        bad("for 1+1[];", 1, 5, 0);
        bad("for 3 let 3;", 1, 6, 0);
        bad("for 3[];let", 1, 11, 0);
        bad("for 3[]", 1, 7, 0);
        bad("for 3[let 3];", 1, 11, 1);
        bad("if[];", 1, 2, 0);
        bad("if 1;", 1, 4, 0);
        bad("if 1[]let 3;", 1, 6, 0);
        bad("[];", 1, 0, 0);
        bad("];", 1, 0, 0);
        bad("as 3;", 1, 0, 0);
        bad("x;", 1, 0, 0);
    }

    private static void sums() {
        says("SUM: PART { + or - PART }; PART: UNIT { * or / or % UNIT }; UNIT: N, i, x, ( SUM ).");
        does("let 1+2*3;", 1, 7);
        does("let 2*3+1;", 1, 7);
        does("let 9-3-2;", 1, 4);
        does("let 9-(3-2);", 1, 8);
        does("let 100/5*2;", 1, 40);
        does("let 100%7*2;", 1, 4);
        does("let 2*100%7;", 1, 4);
        does("let (1+2)*3;", 1, 9);
        does("let i+x;", 1, 0);
        does("let ((((((((5))))))));", 1, 5);
        bad("let +3;", 1, 4, 0);
        bad("let -3;", 1, 4, 0);
        bad("let 3+;", 1, 6, 0);
        bad("let 3*;", 1, 6, 0);
        bad("let 3+*4;", 1, 6, 0);
        bad("let ();", 1, 5, 0);
        bad("let (3;", 1, 6, 0);
        bad("let 3);", 1, 5, 0);
        bad("let (3));", 1, 7, 0);
        bad("let 3(4);", 1, 5, 0);
        bad("let (3)(4);", 1, 7, 0);
        bad("let [3];", 1, 4, 0);
    }

    private static void numbersAndWords() {
        says("N: 1 to 6 digits (for: 0 .. 200).");
        does("let 0;", 1, 0);
        does("let 9;", 1, 9);
        does("let 999999;", 1, 999999);
        does("let 000009;", 1, 9);
        bad("let 1000000;", 1, 4, 0);
        bad("let 0000009;", 1, 4, 0);
        bad("let 99999999999999999999;", 1, 4, 0);
        does("for 0[let 5;];", 0, 0);
        does("for 1[let 5;];", 2, 5);
        does("for 200[];", 200, 0);
        does("for 000200[];", 200, 0);
        bad("for 201[];", 2, 4, 0);
        bad("for 0000200[];", 1, 4, 0);

        says("WORDS: put, as, drop, get, let, for, if, i, x.");
        does("put 1 as 2;get 1;drop 1;let 5;for 1[if 1[let i+x;];];", 6, 5);
        for (String word : new String[] {"Put 1 as 1;", "puts 1 as 1;", "pu 1 as 1;", "dro 1;", "ge 1;", "le 1;", "fo 1[];", "f 1[];",
            "IF 1[];", "else 1;", "a;"}) {
            bad(word, 1, 0, 0);
        }
        bad("put 1 at 2;", 1, 6, 0);
        bad("put 1 a 2;", 1, 6, 0);
        bad("let y;", 1, 4, 0);
        bad("let I;", 1, 4, 0);
        bad("let ii;", 1, 4, 0);
        bad("let let;", 1, 4, 0);
        bad("let if;", 1, 4, 0);
        bad("let 1+as;", 1, 6, 0);
    }

    private static void blanks() {
        says("Blanks (10, 32) are where one likes");
        does(" \nlet\n5 ;\n ", 1, 5);
        does("put  1\nas 2 ; for\n2\n[ let ( 3 + i ) * 2 ; ] ; ", 5, 8);
        does("put(1)as(2);let(3);if(1)[let(4);];", 3, 4);
        does(" ", 0, 0);
        does("\n", 0, 0);
        for (int c = 0; c < 256; c++) {
            String text = "let" + (char) c + "5;";
            if (c == 10 || c == 32) {
                does(text, 1, 5);
            } else if (c < 'a' || c > 'z') {
                bad(text, 1, c == '(' ? 5 : 3, 0);
            }
        }
        bad("le t 5;", 1, 0, 0);
        bad("let 5 5;", 1, 6, 0);

        says("(words and numbers side by side need one, else it is FAULT 1 at the second's first byte).");
        bad("let5;", 1, 3, 0);
        bad("drop5;", 1, 4, 0);
        bad("get5;", 1, 3, 0);
        bad("put5 as 6;", 1, 3, 0);
        bad("put 5as 6;", 1, 5, 0);
        bad("put 5 as6;", 1, 8, 0);
        bad("put x as6;", 1, 8, 0);
        bad("for5[];", 1, 3, 0);
        bad("if5[];", 1, 2, 0);
        bad("let i5;", 1, 5, 0);
        bad("let x5;", 1, 5, 0);
        bad("let 5x;", 1, 5, 0);
        bad("let 5i;", 1, 5, 0);
        bad("let 5y;", 1, 5, 0);
        bad("let1234567;", 1, 3, 0);
        bad("for 1[let5;];", 1, 9, 1);
        does("let 5 ;", 1, 5);
        does("put 5 as 6;", 1, 0);
        does("let(5);", 1, 5);
    }

    private static void latest() {
        says("x (0 at first): what the latest get (a VALUE; -1 if it is not there), let told;");
        does("let x;", 1, 0);
        does("put 5 as 7;get 5;", 2, 7);
        does("put 5 as 0-7;get 5;", 2, -7);
        does("let 9;get 5;", 2, -1);
        does("put 5 as 7;get 5;let x+1;let x*x;", 4, 64);
        does("put 5 as 7;let 3;put 6 as 1;drop 5;", 4, 3);
        ClashFree x = made(8, 25, 0, 1);
        run(x, 0, "let 9;");
        due("the next text", run(x, 0, "if x[let 5;];"), 0);
        due("its x is 0 at first", x.ran(4), 0);
        due("a put of x", run(x, 0, "put 3 as x+1;"), 1);
        due("its VALUE", x.get(0, 3), 1);
    }

    private static void rounds() {
        says("i: the number, from 0 on, of the round of the innermost for one is in (0 outside).");
        does("let i;", 1, 0);
        does("for 3[let x*10+i+1;];", 6, 123);
        does("for 1[let i;];", 2, 0);
        does("for 200[if i-198[let i;];];", 201, 199);
        does("for 2[for 3[let i;];let x*10+i;];", 16, 21);
        does("for 3[if 1[let i;];];", 6, 2);
        does("for 3[];let i;", 4, 0);
        does("for 3[if i-1[for 0[];let i;];];", 4, 2);
        does("for 2[for 2[for 2[for 2[for 2[let i;];];];];];let x*10+i;", 95, 10);
    }

    private static void ints() {
        says("Ints wrap;");
        // 46341 * 46340 + 41707 is 2147483647.
        does("let 46341*46340+41707;", 1, Integer.MAX_VALUE);
        does("let 46341*46340+41707+1;", 1, Integer.MIN_VALUE);
        does("let 0-46341*46340-41707-1;", 1, Integer.MIN_VALUE);
        does("let 0-46341*46340-41707-2;", 1, Integer.MAX_VALUE);
        does("let 65536*65536;", 1, 0);
        does("let 999999*999999;", 1, (int) 999998000001L);
        does("let 999999*999999*999999;", 1, 999999 * 999999 * 999999);

        says("/ is towards 0, % its rest, both 0 by 0.");
        does("let 7/2;", 1, 3);
        does("let (0-7)/2;", 1, -3);
        does("let 7/(0-2);", 1, -3);
        does("let (0-7)/(0-2);", 1, 3);
        does("let 7%2;", 1, 1);
        does("let (0-7)%2;", 1, -1);
        does("let 7%(0-2);", 1, 1);
        does("let (0-7)%(0-2);", 1, -1);
        does("let 7/0+1;", 1, 1);
        does("let 7%0+1;", 1, 1);
        does("let 0/0+1;", 1, 1);
        does("let 0%0+1;", 1, 1);
        does("let 7/(3-3)+1;", 1, 1);
        does("let (46341*46340+41707+1)/(0-1);", 1, Integer.MIN_VALUE);
        does("let (46341*46340+41707+1)%(0-1)+1;", 1, 1);
    }

    private static void refuses(String text, int steps, int refused, int x) {
        ClashFree object = made(8, 25, 0, 1);
        run(object, 0, "put 7 as 70;");
        long keys = object.has(0, 0);
        due("STEPS of " + text, run(object, 0, text), steps);
        due("REFUSED of " + text, object.ran(3), refused);
        due("x of " + text, object.ran(4), x);
        due("KEYS behind " + text, object.has(0, 0), keys);
        due("COUNT behind " + text, object.has(0, 2), 1);
    }

    private static void refused() {
        says("put, drop, get of what is no KEY, drop of one that is not there,");
        refuses("let 3;put 0-1 as 5;", 2, 1, 3);
        refuses("let 3;drop 0-1;", 2, 1, 3);
        refuses("put 46341*46340+41707 as 5;", 1, 1, 0);
        refuses("drop 46341*46340+41707;", 1, 1, 0);
        refuses("put 46341*46340+41707+1 as 5;", 1, 1, 0);
        refuses("let 3;drop 8;", 2, 1, 3);
        refuses("drop 0;drop 46341*46340+41706;", 2, 2, 0);
        refuses("put 7 as 71;", 1, 0, 0);
        refuses("get 8;", 1, 0, -1);
        refuses("let 0-1;", 1, 0, -1);
        refuses("put 0-1 as 1;drop 0-1;get 0-1;drop 8;get 8;", 5, 4, -1);
        ClashFree x = made(8, 25, 0, 1);
        due("the greatest KEY", run(x, 0, "put 46341*46340+41706 as 5;put 0 as 6;"), 2);
        due("is one", x.get(0, TOP), 5);
        due("so is 0", x.get(0, 0), 6);
        due("none was REFUSED", x.ran(3), 0);
        run(x, 0, "drop 46341*46340+41706;drop 0;drop 0;");
        due("one that is not there any more", x.ran(3), 1);
    }

    private static void refusedAt160() {
        says("a put as there are 160, is REFUSED");
        ClashFree x = made(8, 100, 0, 3);
        run(x, 0, "for 149[put i as i;];");
        due("all came", x.has(0, 0), 149);
        due("the next", run(x, 0, "for 20[put 500+i as i;];"), 40);
        due("nine of them are REFUSED", x.ran(3), 9);
        due("there are 160", x.has(0, 0), 160);
        due("the last that came", x.get(0, 510), 10);
        due("the first that did not", x.get(0, 511), NOTHING);
        long count = x.has(0, 2);
        long s = x.has(0, 13);
        run(x, 0, "let 3;put 999 as 1;");
        due("REFUSED", x.ran(3), 1);
        due("x stays", x.ran(4), 3);
        due("COUNT stays", x.has(0, 2), count);
        due("nothing is drawn", x.has(0, 13), s);
        // One that is there is PUT without a 161st.
        run(x, 0, "put 148 as 7;get 148;");
        due("one that is there is PUT", x.ran(3), 0);
        due("its VALUE", x.ran(4), 7);
        run(x, 0, "drop 148;put 999 as 1;put 998 as 1;");
        due("there was room for one", x.ran(3), 1);
        due("it came", x.get(0, 999), 1);

        says("(get: x is -1).");
        refuses("let 3;get 0-1;", 2, 1, -1);
        refuses("let 3;get 46341*46340+41707;", 2, 1, -1);
        refuses("let 3;get 46341*46340+41706;", 2, 0, -1);
    }

    private static void conditions() {
        says("if: does what is in it, if SUM is above 0.");
        does("if 1[let 5;];", 1, 5);
        does("if 0[let 5;];", 0, 0);
        does("if 0-1[let 5;];", 0, 0);
        does("if 46341*46340+41707[let 5;];", 1, 5);
        does("if 46341*46340+41707+1[let 5;];", 0, 0);
        does("if 0[let 5;];let 6;", 1, 6);
        does("if 0[if 1[let 5;];for 3[let 6;];];let 7;", 1, 7);
    }

    private static void steps() {
        says("STEPS: each put, drop, get, let (REFUSED, too), each round of a for, as it begins;");
        does("put 1 as 1;drop 1;get 1;let 1;", 4, 1);
        does("put 0-1 as 1;drop 0-1;get 0-1;drop 1;", 4, -1);
        does("for 7[];", 7, 0);
        does("for 0[];", 0, 0);
        does("if 1[if 1[];];", 0, 0);
        does("for 2[for 3[let 1;];];", 14, 1);

        says("a 301st ends all, not done.");
        ClashFree x = made(8, 25, 0, 1);
        due("just 300", run(x, 0, "for 150[let i;];"), 300);
        due("not ended", x.ran(5), 0);
        due("a 301st let", run(x, 0, "for 150[let i;];let 7;"), 300);
        due("ended", x.ran(5), 1);
        due("not done", x.ran(4), 149);
        due("a 301st put", run(x, 0, "for 150[let i;];put 5 as 5;"), 300);
        due("ended", x.ran(5), 1);
        due("not done", x.get(0, 5), NOTHING);
        x.put(0, 5, 5);
        run(x, 0, "for 150[let i;];drop 5;");
        due("a 301st drop is not done", x.get(0, 5), 5);
        run(x, 0, "for 150[let i;];get 5;");
        due("a 301st get is not done", x.ran(4), 149);
        run(x, 0, "for 150[let i;];drop 0-1;");
        due("nor is one that were REFUSED", x.ran(3), 0);
        due("but it ends all", x.ran(5), 1);
        due("a 301st round", run(x, 0, "for 150[let i;];for 1[];"), 300);
        due("ended", x.ran(5), 1);
        due("a 301st round of a for that goes on", run(x, 0, "for 101[let i;let i;];"), 300);
        due("ended", x.ran(5), 1);
        due("its 300th was done", x.ran(4), 99);
        due("no round is none", run(x, 0, "for 150[let i;];for 0[let 9;];if 1[];if 0[let 9;];"), 300);
        due("not ended", x.ran(5), 0);
        due("within others", run(x, 0, "for 200[for 200[for 200[];];];"), 300);
        due("ended", x.ran(5), 1);
    }

    private static void faults() {
        says("FAULTS: of several the one whose place is least,");
        bad("let;for 201[];", 1, 3, 0);
        bad("for 201[];let;", 2, 4, 0);
        bad("for 201[for 202[];];", 2, 4, 0);
        bad("for 201", 2, 4, 0);
        bad("for 201;", 2, 4, 0);
        bad("let (((((((((1;", 3, 12, 0);
        bad("let (((((((((1)))))))));for 201[];", 3, 12, 0);
        bad("for 201[let (((((((((1)))))))));];", 2, 4, 0);
        bad(FIVE + "for 201[];" + ENDS, 3, 28, 5);
        bad(FIVE + "if (((((((((1)))))))))[];" + ENDS, 3, 28, 5);
        bad(FIVE + "let;for 1[];" + ENDS, 1, 31, 5);
        bad("let (((((((((1)))))))))" + (char) 200, 3, 12, 0);

        says("of one place the one that stands first here:");
        bad("for 1234567[];", 1, 4, 0);
        bad("for201[];", 1, 3, 0);
        bad("let ((((((((1(", 1, 13, 0);
        bad(FIVE + "let for 1[];" + ENDS, 1, 32, 5);
    }

    private static void faultsOfBytes() {
        says("1 the first byte with which no such text goes on");
        bad("let 5 & 6;", 1, 6, 0);
        bad("let 5; ?", 1, 7, 0);
        bad("put 5 as 6,", 1, 10, 0);
        bad("let 5;" + (char) 0, 1, 6, 0);
        bad("let 5;" + (char) 255, 1, 6, 0);
        bad("let 5;\t", 1, 6, 0);
        bad("for 1[}", 1, 6, 1);
        bad("let (?1);", 1, 5, 0);
        bad("let 1+?1;", 1, 6, 0);
        bad("for 1[];?for 1[];", 1, 8, 0);

        says("(words and numbers whole, at their first byte,");
        bad("lex 5;", 1, 0, 0);
        bad("lets 5;", 1, 0, 0);
        bad("letz 5;", 1, 0, 0);
        bad("leta 5;", 1, 0, 0);
        bad("letx;", 1, 0, 0);
        bad("putx as 5;", 1, 0, 0);
        bad("put xas 5;", 1, 4, 0);
        bad("put 5 asx;", 1, 6, 0);
        bad("let 5;dorp 5;", 1, 6, 0);
        bad("let 5;as 5;", 1, 6, 0);
        bad("let 5 let 6;", 1, 6, 0);
        bad("let 5 678;", 1, 6, 0);
        bad("for 1[let xi;];", 1, 10, 1);
        bad("le", 1, 0, 0);
        bad("let 5;dro", 1, 6, 0);
        bad("put 5 a", 1, 6, 0);

        says("also a number of 7 digits;");
        bad("let 1234567;", 1, 4, 0);
        bad("let 0000001;", 1, 4, 0);
        bad("let 1+1234567", 1, 6, 0);
        bad("for 0000001[];", 1, 4, 0);
        good("let 123456;");

        says("at the text's length, if it ends too soon);");
        bad("let", 1, 3, 0);
        bad("let ", 1, 4, 0);
        bad("let 5", 1, 5, 0);
        bad("let 5 \n", 1, 7, 0);
        bad("let 5+", 1, 6, 0);
        bad("let (5", 1, 6, 0);
        bad("put 5", 1, 5, 0);
        bad("put 5 as", 1, 8, 0);
        bad("for", 1, 3, 0);
        bad("for 1", 1, 5, 0);
        bad("for 1[", 1, 6, 1);
        bad("for 1[let 5;", 1, 12, 1);
        bad("for 1[if 1[", 1, 11, 2);
        bad("for 1[]", 1, 7, 0);
        bad("if", 1, 2, 0);
        bad("if 1", 1, 4, 0);
        bad(" ".repeat(597) + "let", 1, 600, 0);
    }

    private static void faultsOfNumbers() {
        says("2 an N of for above 200;");
        good("for 200[];");
        bad("for 201[];", 2, 4, 0);
        bad("for  \n201[];", 2, 6, 0);
        bad("for 999999[];", 2, 4, 0);
        bad("for 000201[];", 2, 4, 0);
        bad("let 201;for 201[];", 2, 12, 0);
        bad("for 1[for 201[];];", 2, 10, 1);
        good("let 201;if 201[];");
    }

    private static void faultsOfDepth() {
        says("3 a 6th [ or a 9th ( that is open within others, at the for, the if, the (.");
        good(FIVE + ENDS);
        bad(FIVE + "for 1[];" + ENDS, 3, 28, 5);
        bad(FIVE + "if 1[];" + ENDS, 3, 28, 5);
        bad(FIVE + "let 5; if 1[];" + ENDS, 3, 35, 5);
        bad(FIVE + "for 1[", 3, 28, 5);
        good(FIVE + ENDS + FIVE + ENDS);
        good("for 1[];".repeat(9));
        good(FIVE + "];if 1[];];];];];");
        // Where no 6th [ comes there is none that is open.
        bad(FIVE + "for", 1, 31, 5);
        bad(FIVE + "for x[", 1, 32, 5);
        bad(FIVE + "for ?1[", 1, 32, 5);
        bad(FIVE + "if ?1[", 1, 31, 5);
        bad(FIVE + "for 201;", 2, 32, 5);
        bad(FIVE + "if 1;", 1, 32, 5);
        good("let ((((((((1))))))));");
        bad("let (((((((((1)))))))));", 3, 12, 0);
        bad("let (((((((((", 3, 12, 0);
        bad("let 1+(2*(3-(4/(5%(6+(7+(8+(9))))))));let (((((((((1)))))))));", 3, 50, 0);
        good("let ((((((((1))))))))*((((((((2))))))));");
        good("put ((((((((1)))))))) as ((((((((2))))))));");
        bad("put 1 as (((((((((2)))))))));", 3, 17, 0);
        good(FIVE + "let ((((((((1))))))));" + ENDS);
        bad(FIVE + "let (((((((((1)))))))));" + ENDS, 3, 40, 5);
        bad("if (((((((((1)))))))))[];", 3, 11, 0);
    }

    private static void depths() {
        says("DEPTH of a FAULT: how many for and if are open there.");
        bad("?", 1, 0, 0);
        bad("for ?", 1, 4, 0);
        bad("for 1?", 1, 5, 0);
        bad("for 1[?", 1, 6, 1);
        bad("if 1[?", 1, 5, 1);
        bad("for 1[let 5;]?", 1, 13, 0);
        bad("for 1[let 5;];?", 1, 14, 0);
        bad("for 1[let 5?", 1, 11, 1);
        bad("for 1[for ?", 1, 10, 1);
        bad("for 1[if ?", 1, 9, 1);
        bad("for 1[if 1[?", 1, 11, 2);
        bad("for 1[if 1[]?", 1, 12, 1);
        bad("for 1[if 1[];]?", 1, 14, 0);
        bad("for 1[if 1[for 1[?", 1, 17, 3);
        bad("for 1[if 1[for 1[if 1[?", 1, 22, 4);
        bad(FIVE + "?", 1, 28, 5);
        bad(FIVE + ENDS + "?", 1, 38, 0);
        bad("for 1[for 201[];];", 2, 10, 1);
        bad("if 0[for 201[];];", 2, 9, 1);
        bad("for 0[if 0[let (((((((((1", 3, 23, 2);
        bad(FIVE + "for 1[for 1[", 3, 28, 5);
    }

    /** What a text left, with a FAULT or ended by a 301st STEP, is nothing to the next one. */
    private static void oneBehindAnother() {
        String[] texts = {"let 1-", "let 5 as", "let 1-(((", "for 3[let 1;];", "for 200[let i;];", "for 1[if 1[for 201[", "let 9;let ?",
            FIVE + "for 1[", "for 150[let 1;];put 5 as 7;", "if 1[let 7;];", "let 0000000;", "put 1 as 2;drop 1;drop 1;", " ", "for"};
        for (String text : texts) {
            ClashFree x = made(8, 25, 0, 1);
            run(x, 0, text);
            due("the next", run(x, 0, "let 5;put i as x;let i-x;"), 3);
            due("FAULT behind " + text, x.ran(0), 0);
            due("x behind " + text, x.ran(4), -5);
            due("REFUSED behind " + text, x.ran(3), 0);
            due("ended behind " + text, x.ran(5), 0);
            due("the put behind " + text, x.get(0, 0), 5);
        }
        ClashFree x = made(8, 25, 0, 1);
        for (int n = 0; n < 40; n++) {
            due("ended by a put", run(x, 0, "for 150[let 1;];put 3 as 4;"), 300);
        }
        due("a deep one then", run(x, 0, "let 1+2*(3+4*(5+6*(7+8*(9+1*(2+3*(4+5))))));"), 1);
        due("its x", x.ran(4), 1 + 2 * (3 + 4 * (5 + 6 * (7 + 8 * (9 + (2 + 3 * (4 + 5)))))));
    }
}
