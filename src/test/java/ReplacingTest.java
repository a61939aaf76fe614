/** Promises 7, 8 and 12 with stage 2: how the second processor replaces macros. */
public final class ReplacingTest {
    public static void main(String[] args) {
        rescanning();
        hiding();
        arguments();
        texts();
        pasting();
        emptyArguments();
        places();
        counts();
        linesOfErrors();
        keptArguments();
        Bench.finish("ReplacingTest");
    }

    private static Bench gives(String text, String want) {
        return Bench.gives(2, text, want);
    }

    private static void fails(String text, int error, int line) {
        Bench.fails(2, text, error, line);
    }

    private static void rescanning() {
        String macros = "#define x 3\n#define f(a) f(x * (a))\n#undef x\n#define x 2\n#define g f\n#define z z[0]\n#define h g(~\n"
                + "#define m(a) a(w)\n#define w 0,1\n#define t(a) a\n#define p() int\n#define q(x) x\n#define r(x,y) x ## y\n#define str(x) # x\n";
        gives(macros + "f(y+1) + f(f(z)) % t(t(g)(0) + t)(1);",
                "f ( 2 * ( y + 1 ) ) + f ( 2 * ( f ( 2 * ( z [ 0 ] ) ) ) ) % f ( 2 * ( 0 ) ) + t ( 1 ) ;\n");
        gives(macros + "g(x+(3,4)-w) | h 5) & m\n(f)^m(m);",
                "f ( 2 * ( 2 + ( 3 , 4 ) - 0 , 1 ) ) | f ( 2 * ( ~ 5 ) ) & f ( 2 * ( 0 , 1 ) ) ^ m ( 0 , 1 ) ;\n");
        gives(macros + "p() i[q()] = { q(1), r(2,3), r(4,), r(,5), r(,) };\nchar c[2][6] = { str(hello), str() };",
                "int i [ ] = { 1 , 23 , 4 , 5 , } ;\nchar c [ 2 ] [ 6 ] = { \"hello\" , \"\" } ;\n");
        gives("#define A B\n#define B C\n#define C x\nA B C", "x x x\n");
        gives("#define f(x) x\n#define g f\ng(1) g (2) g\n(3) f f(4)", "1 2 3 f 4\n");
        gives("#define f(x) x\n#define L (\n#define R )\nf L 1 R f(f)(2)", "f ( 1 ) f ( 2 )\n");
        gives("#define f(x) x\nf(f E (1))\n#define E\nf(f E (1)) f E (2)", "f E ( 1 )\nf ( 1 ) f ( 2 )\n");
        gives("#define h(x) -x\n#define E\n#define f(x) x\nf(h E (1))", "- 1\n");
    }

    private static void hiding() {
        gives("#define A A B\n#define B A B\nA", "A A B\n");
        gives("#define A B A\n#define B A B\nA B", "A B A B A B\n");
        gives("#define f(x) x f\nf(1)(2)(3)", "1 f ( 2 ) ( 3 )\n");
        gives("#define f(x) x g\n#define g(x) x f\nf(1)(2)(3)(4)", "1 2 3 4 f\n");
        gives("#define NIL(x) x\n#define G0(a) NIL(G1)(a)\n#define G1(a) NIL(G0)(a)\nG0(42)", "G0 ( 42 )\n");
        gives("#define f(a) a*g\n#define g(a) f(a)\nf(2)(9)", "2 * 9 * g\n");
        gives("#define foo foo a bar\n#define bar foo 12\nfoo", "foo a foo 12\n");
        gives("#define f(x) x\n#define A f(A)\nf(A) A", "A A\n");
        gives("#define A B(A)\n#define B(x) x A\nA", "A A\n");
        gives("#define A a ## B\n#define aB A aC\n#define aC A aB\nA", "A A aB\n");
        gives("#define j(x,y) x##y\n#define AB j(A,B) AB\n#define A q\nAB j(A,B)", "AB AB j ( q , B ) AB\n");
    }

    private static void arguments() {
        gives("#define f(x,y) [x|y]\nf(1,2) f((1,2),3) f(,) f(1,) f(,2) f(((,)),(()))",
                "[ 1 | 2 ] [ ( 1 , 2 ) | 3 ] [ | ] [ 1 | ] [ | 2 ] [ ( ( , ) ) | ( ( ) ) ]\n");
        gives("#define f() 0\n#define g(x) [x]\nf() f( ) f(\n) g() g( )", "0 0 0 [ ] [ ]\n");
        gives("#define f(x,y) [x|y]\n#define c ,\n#define g(x) f(x)\ng(1 c 2) f(1 c 2,3)", "[ 1 | 2 ] [ 1 , 2 | 3 ]\n");
        gives("#define f(x,...) x:__VA_ARGS__:#__VA_ARGS__\nf(1,) f(1,2 ,  (3,4))", "1 : : \"\" 1 : 2 , ( 3 , 4 ) : \"2 , (3,4)\"\n");
        gives("#define f(x) 1\nf", "f\n");
        String[] wrong = {"f(x,y) 1\nf(1)", "f(x,y) 1\nf()", "f(x,y) 1\nf(1,2,3)", "f() 1\nf(1)", "f() 1\nf(,)", "f(x) 1\nf(,)", "f(x,...) 1\nf(1)",
            "f(x,y,...) 1\nf(1,2)", "f() 1\nf(())"};
        for (String text : wrong) {
            fails("#define " + text, 17, 2);
        }
        String[] open = {"f(x) 1\nf(", "f(x,y) 1\nf((1,2)", "f(x,y) 1\nf(1\n#if 1\n)\n#endif", "f() 1\nf(1,(", "f(x) 1\nf(1\n#define A )\nA"};
        for (String text : open) {
            fails("#define " + text, 18, 2);
        }
    }

    private static void texts() {
        String s = "#define s(x) #x\n#define t(x) s(x)\n#define A 1 2\n#define E\n";
        gives(s + "s(a) s( a  b ) s(a/**/b) s(a\nb) s(+ +) s(++) s()", "\"a\" \"a b\" \"a b\" \"a b\" \"+ +\" \"++\" \"\"\n");
        gives(s + "s(\"a\\n\") s('\"') s('\\0') s(L\"x\\\\\") s(\\n) s(@\\)",
                "\"\\\"a\\\\n\\\"\" \"'\\\"'\" \"'\\\\0'\" \"L\\\"x\\\\\\\\\\\"\" \"\\n\" \"@\\\"\n");
        gives(s + "s(A) t(A) t( A E +A) t(E) s(E)", "\"A\" \"1 2\" \"1 2 +1 2\" \"\" \"E\"\n");
        gives(s + "s(x\"\ny)", "\"x\" y\"\n");
        gives(s + "t(s(\"q\"))", "\"\\\"\\\\\\\"q\\\\\\\"\\\"\"\n");
        gives("#define s(x,y) #x#y\ns(1,2)", "\"1\" \"2\"\n");
        gives("#define s(x) #x x\n#define A B\n#define B b\ns(A)", "\"A\" b\n");
    }

    private static void pasting() {
        String j = "#define j(x,y) x##y\n";
        gives(j + "j(a,b) j(1,2) j(a,1) j(1,a) j(.,5) j(1e,+) j(L,\"x\") j(L,'x') j(<,<=) j(-,>) j(#,#)",
                "ab 12 a1 1a .5 1e+ L\"x\" L'x' <<= -> ##\n");
        gives(j + "j(a b,c d) j(a b,) j(,c d) j(,)", "a bc d a b c d\n");
        gives(j + "#define ab AB\n#define A 1\nj(a,b) j(A,A) j(A,) j(,A)", "AB AA 1 1\n");
        gives("#define j a ## b ## c\n#define abc x\nj", "x\n");
        gives("#define h # ## #\n#define s(x) #x\n#define t(x) s(x)\n#define j(a,d) t(a h d)\nj(x,y) j(x, y)", "\"x ##y\" \"x ## y\"\n");
        gives("#define j(x) j1 x ## 1 x\nj(j1 j)", "j1 j1 j1 j1 j\n");
        gives("#define t(x,y) x ## y ## x\nt(a,b) t(,b) t(a,) t(,)", "aba b aa\n");
        gives("#define v(...) a ## __VA_ARGS__ ## b\nv(1,2) v()", "a1 , 2b ab\n");
        gives(j + "j('\n,'\n)", "''\n");
        gives(j + "j(__LI,NE__) j(__FI,LE__)", "2 \"m\"\n");
        String[] bad = {"+,/", "a,+", "\",b", "\"a\",b", "1,+", "[,]", "/,/", "/,*", ".,.", "-,-=", "a,\"b\"", "'a','b'", "<,a", "..,.", "#,a", "$,$", "a,$",
            "=,>", ".,.5", "\\,n", "L,L\"x\""};
        for (String pair : bad) {
            fails(j + "\nj(" + pair + ")", 19, 3);
        }
        fails("#define j(x) L ## #x\nj(a)", 19, 2);
        fails("#define j(x) # x ## 1 a\nj(L)", 19, 2);
        fails("#define j a ## ## b\nj", 19, 2);
    }

    private static void emptyArguments() {
        gives("#define f(x,y,z) a x##y##z b\nf(,,c) f(,c,) f(c,,) f(,,) f(,c,d) f(c,,d) f(c,d,)", "ac b a c b a c b a b a cd b a cd b a cd b\n");
        gives("#define h(x) x ## ## a\nh()", "a\n");
        fails("#define h(x) x ## ## a\nh(b)", 19, 2);
        gives("#define k(x,y) x ## # y\n#define b B\nk(,b) k(#,b)", "\"b\" ## B\n");
        fails("#define k(x,y) x ## # y\nk(a,b)", 19, 2);
        gives("#define m(x,y) x##y##c\nm(,) m(a,) m(,b)", "c ac bc\n");
        gives("#define A q\n#define m(x,y) x##y\n#define n(x) x##A\nm(,A) n()", "q q\n");
        gives("#define E\n#define m(x,y) x##y\nm(E,1) m(1,E)", "E1 1E\n");
    }

    /** What stands before tokens is seen in texts, and which are the first of a line in the out. */
    private static void places() {
        String t = "#define s(x) #x\n#define t(x) s(x)\n#define E\n#define m +\n#define p(x) x\n#define q(x) [x]\n#define r(x) [ x ]\n#define j(x,y) -x##y\n"
                + "#define k(x) a#x\n#define l(x) a #x\n#define o(x) ( x)\n";
        gives(t + "t(-E+) t(- E+) t(-E +) t(-E-E-)", "\"-+\" \"-+\" \"- +\" \"---\"\n");
        gives(t + "t(-m) t(- m) t(-p( +)) t(- p(+)) t(-p(m))", "\"-+\" \"- +\" \"-+\" \"- +\" \"-+\"\n");
        gives(t + "t(q( a )) t(q(a)) t(r(a)) t(r( a)) t(o(m))", "\"[ a]\" \"[a]\" \"[a ]\" \"[ a ]\" \"(+)\"\n");
        gives(t + "t(j(a,b)) t(j( a, b)) t(k(1)) t(l(1)) t(-__LINE__ __LINE__)",
                "\"-ab\" \"- ab\" \"a\\\"1\\\"\" \"a \\\"1\\\"\" \"-12 12\"\n");
        gives(t + "t(q(\na\nb))\nc", "\"[ a b]\"\nc\n");
        gives(t + "x\np(a\nb\nc)\nd", "x\na b c\nd\n");
        gives(t + "E\na\nE b\nm\n__LINE__\np()c\np(\nd)", "a b\n+\n16 c\nd\n");
    }

    private static void counts(String text, int put, int substituted) {
        Bench bench = new Bench().about(text);
        bench.file("m", "#define A 1 2 3\n#define E\n#define f(x) x x\n#define j(x,y) x##y\n#define s(x) #x\n#define h(x) x ## ## a\n#define u(x)\n" + text);
        bench.due("run", bench.mill.run(0, 2, 1, 0), 0);
        bench.due("told(3)", bench.mill.told(3), put);
        bench.due("told(4)", bench.mill.told(4), substituted);
    }

    private static void counts() {
        counts("x y __LINE__", 3, 0);
        counts("A", 3, 3);
        counts("E u(A) f() f(E)", 0, 0);
        counts("f(a)", 2, 2);
        counts("f(A)", 6, 12);
        counts("f(f(f(a)))", 8, 24);
        counts("j(a,b)", 1, 1);
        counts("j(a b,c d)", 3, 3);
        counts("j(,c d) j(a b,)", 4, 4);
        counts("s(a b c)", 1, 1);
        counts("f(s(a))", 2, 4);
        counts("h()", 1, 1);
        counts("#if A\n", 11, "#if A", 3);
    }

    private static void counts(String text, int error, String about, int substituted) {
        Bench bench = Bench.fails(2, "#define A 1 2 3\n" + text, error, 2).about(about);
        bench.due("told(3)", bench.mill.told(3), 0);
        bench.due("told(4)", bench.mill.told(4), substituted);
    }

    private static void linesOfErrors() {
        fails("#define f(x) x\n#define g f(\n\n g\n1", 18, 4);
        fails("#define f(x) x\n#define g f(\n\nf(\ng 1)", 18, 5);
        fails("#define f(x) x\n#define g() h\n#define h f(\ng\n(\n)\n1", 18, 4);
        fails("#define j(x,y) x##y\n#define ab(x) x\nj(\na,\nb)(", 18, 4);
        fails("#define j(x) a##x\n#define ab(x) x\nj(\nb)(", 18, 3);
        fails("#define f(x) x\nf(\n\nf(1,2)\n)", 17, 4);
        fails("#define f(x,y) x\nf(\n\n1)", 17, 2);
        fails("#define j(x,y) x##y\n#define f(x) x\nf(a\nj(+,/))", 19, 4);
        fails("#define k +##/\n#define f(x) k x\n\n\nf(\n1)", 19, 5);
        Bench put = Bench.fails(2, "#define f(x) x\na\nb f(c) f(", 18, 3);
        put.due("told(3)", put.mill.told(3), 3);
        put.due("told(4)", put.mill.told(4), 1);
    }

    /** An argument is replaced anew at each place, which must not take ever longer. */
    private static void keptArguments() {
        String f = "#define f(x) x x x x\n";
        gives(f + "f(".repeat(60) + ")".repeat(60) + "a", "a\n");
        fails(f + "f(".repeat(61) + ")".repeat(61) + "a", 20, 2);
        Bench pasted = gives("#define f(x,y,z,w) x y##z##w x\n#define P p q\nf(P,,,b)", "p qb p q\n");
        pasted.due("told(4)", pasted.mill.told(4), 8);
        Bench beside = gives("#define f(x) x a##b x c##d x\n#define P p q\nf(P)f()", "p q ab p q cd p q ab cd\n");
        beside.due("told(4)", beside.mill.told(4), 16);
        gives("#define f(x) x a##b x\n" + "f(".repeat(8) + ")".repeat(8) + "c", "ab ".repeat(255) + "c\n");
        gives("#define f(x) x x x\n#define g(x,y) f(x)f(y)x\n#define A f(a)\ng(A,f(g(1,2)))",
                "a a a ".repeat(3) + "1 1 1 2 2 2 1 ".repeat(9) + "a a a\n");
    }
}
