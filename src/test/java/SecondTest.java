/** Promise 7 with stage 2: lines, tokens, directives and conditions of the second processor. */
public final class SecondTest {
    public static void main(String[] args) {
        tokens();
        splicesAndComments();
        outLines();
        defining();
        definingErrors();
        nameDirectives();
        otherDirectives();
        conditionParts();
        conditionErrors();
        conditionValues();
        conditionForms();
        including();
        includingErrors();
        telling();
        firstErrors();
        Bench.finish("SecondTest");
    }

    private static void gives(String text, String want) {
        Bench.gives(2, text, want);
    }

    private static void fails(String text, int error, int line) {
        Bench.fails(2, text, error, line);
    }

    private static void tokens() {
        gives("", "");
        gives(" \n\t\n\n", "");
        gives("a_1b 9", "a_1b 9\n");
        gives("a...b....c..d", "a ... b ... . c . . d\n");
        gives("a<<=b>>=c->d++e--f<<g>>h<=i>=j==k!=l&&m||n", "a <<= b >>= c -> d ++ e -- f << g >> h <= i >= j == k != l && m || n\n");
        gives("*=/=%=+=-=&=^=|=###[](){}.&*+-~!/%<>^|?:;=,", "*= /= %= += -= &= ^= |= ## # [ ] ( ) { } . & * + - ~ ! / % < > ^ | ? : ; = ,\n");
        gives("<<<=>>>>===+++-----><-", "<< <= >> >>= == ++ + -- -- -> < -\n");
        gives("1.2.3 .5 . 5 1e+5-3 1E-2+ 0x1p-3x 12ab_ 1e 1.e+.+ 5f+1", "1.2.3 .5 . 5 1e+5 - 3 1E-2 + 0x1p-3x 12ab_ 1e 1.e+. + 5f + 1\n");
        gives("\"a\\\"b\"'c\\'d'L\"x\"L'y'LL\"z\"aL'w'", "\"a\\\"b\" 'c\\'d' L\"x\" L'y' LL \"z\" aL 'w'\n");
        gives("\"\"''\"a'b\"'c\"d'", "\"\" '' \"a'b\" 'c\"d'\n");
        gives("it's\nL'\n\"no end\n'a\" b", "it ' s\nL '\n\" no end\n' a \" b\n");
        gives("'ab\\\nc\"x\\\\\" y", "' abc \"x\\\\\" y\n");
        gives("\"a\\", "\" a \\\n");
        gives("\u00e9@$`\\\u0000\u0001x", "\u00e9 @ $ ` \\ \u0000 \u0001 x\n");
        gives("a\rb\u000bc\fd\te", "a b c d e\n");
    }

    private static void splicesAndComments() {
        gives("ab\\\ncd +\\\n+ \"x\\\ny\"\\\n\\\nz", "abcd ++ \"xy\" z\n");
        gives("a\\\\\n\nb", "a \\\nb\n");
        gives("a\\ \nb\\", "a \\\nb \\\n");
        gives("a/**/b/*/c*/d//e\nf", "a b d\nf\n");
        gives("a/*\n\n*/b\nc//*\nd*/", "a b\nc\nd * /\n");
        gives("\"/*\"a'//'b", "\"/*\" a '//' b\n");
        gives("a//b\\\nc\nd", "a\nd\n");
        gives("/\\\n* x *\\\n/y/\\\n/z", "y\n");
        gives("'/*'*/ ' /* x\n' */ y", "'/*' * / ' y\n");
        gives("a /", "a /\n");
        gives("a // no LF", "a\n");
        fails("a\n/* b\nc", 1, 2);
        fails("a\n\\\n/*/", 1, 3);
        fails("x // /*\n\n y /* *", 1, 3);
        fails("#if 0\n/*", 1, 2);
    }

    private static void outLines() {
        gives("a b\n\n\n c", "a b\nc\n");
        gives("\n\n a", "a\n");
        gives("#define E\nE a\nE\nb E\nc", "a\nb\nc\n");
        gives("#define f(x,y) x y\nf(a\n,b\nc)\nd", "a b c\nd\n");
        gives("#define A B\n#define B x y\nA\nB z", "x y\nx y z\n");
        gives("#define E\nx\nE y\nz", "x y\nz\n");
    }

    private static void defining() {
        gives("#define A\n#define B 1 2\n#define C() 3\n#define D(x) <x>\n#define F(x , y) y x\nA B C() D(4) F(5,6)", "1 2 3 < 4 > 6 5\n");
        gives("#define A(x) x\n#define B (x) x\nA(1) B", "1 ( x ) x\n");
        gives("#define A/**/(x) x\nA", "( x ) x\n");
        gives(" # /**/ define A 1 // c\n  A", "1\n");
        gives("#define \\\nA \\\n1\nA", "1\n");
        gives("#define f(...) [__VA_ARGS__]\nf() f(1) f(1,2) f((1,2),3)", "[ ] [ 1 ] [ 1 , 2 ] [ ( 1 , 2 ) , 3 ]\n");
        gives("#define f(a,...) a[__VA_ARGS__]\nf(1,) f(1,2,3)", "1 [ ] 1 [ 2 , 3 ]\n");
        gives("#define f(defined,__LINE__) defined __LINE__\nf(1,2)", "1 2\n");
        gives("#define A #\n#define B # ## #\n#define C a #x\nA B C", "# ## a # x\n");
        gives("__VA_ARGS__ defined", "__VA_ARGS__ defined\n");
        gives("#define A 1 + x\n#define A   1 + x\n#define A/**/1 /**/+\tx // y\nA", "1 + x\n");
        gives("#define f(x, y) x+y\n#define f(x,y)x+y\nf(1,2)", "1 + 2\n");
        gives("#define A 1\n#undef A\n#define A(x) x 2\nA(0)", "0 2\n");
        gives("#define f(x) x\n#define f2() y\nf(f2())", "y\n");
    }

    private static void definingErrors() {
        for (String name : new String[] {"", " 1", " (", " \"a\"", " defined", " __LINE__", " __FILE__", " __VA_ARGS__", " L'x'"}) {
            fails("\n#define" + name + " ## 1", 3, 2);
        }
        String[] parameters = {"f(", "f(x", "f(x,", "f(x,)", "f(,x)", "f(x y)", "f(x,x)", "f(1)", "f(...,x)", "f(x...)", "f(...,...)",
            "f(__VA_ARGS__)", "f(x,(y))", "f(x) __VA_ARGS__", "A __VA_ARGS__", "f() ## __VA_ARGS__", "f(\"x\")", "f(x;y)"};
        for (String text : parameters) {
            fails("#define " + text, 4, 1);
        }
        String[] hashes = {"A ##", "A ## a", "A a ##", "f(x) ## x", "f(x) x ##", "f(x) #", "f(x) # y", "f(x) x # 1", "f() #x", "f(x) x ## #",
            "f(x) ##", "f(...) #x", "f(x) # #x"};
        for (String text : hashes) {
            fails("#define " + text, 5, 1);
        }
        String[][] again = {{"A 1", "A 2"}, {"A 1", "A"}, {"A 1", "A() 1"}, {"A() 1", "A(x) 1"}, {"f(x) x", "f(y) y"}, {"f(x) x", "f(x) (x)"},
            {"A 1 + x", "A 1 +x"}, {"A 1+x", "A 1 +x"}, {"f(x,y) x", "f(x) x"}, {"f(x,...) x", "f(x,y) x"}, {"f(...) 1", "f(x) 1"},
            {"A (x) x", "A(x) x"}, {"A 'a'", "A \"a\""}, {"f(x,y) x", "f(y,x) x"}};
        for (String[] pair : again) {
            fails("#define " + pair[0] + "\n#define " + pair[1], 6, 2);
        }
        Bench kept = Bench.fails(2, "#define f(x) x\n#define f(x,y) x", 6, 2);
        kept.due("parameters", kept.parameters("f"), 1);
    }

    private static void nameDirectives() {
        gives("#define A 1\n#undef A\n#undef A\n#undef B\nA", "A\n");
        gives("#define A\n#ifdef A\n1\n#endif\n#ifndef A\n2\n#endif\n#ifdef B\n3\n#endif\n#ifndef B\n4\n#endif", "1\n4\n");
        for (String word : new String[] {"undef", "ifdef", "ifndef"}) {
            for (String name : new String[] {"", " 1", " defined", " __LINE__", " __FILE__", " __VA_ARGS__", " (A)", " 1 2"}) {
                fails("x\n#" + word + name, 3, 2);
            }
            fails("x\n\n # " + word + " A B", 7, 3);
            fails("#" + word + " A 1", 7, 1);
        }
    }

    private static void otherDirectives() {
        gives("#\n # // c\n#pragma once \"x\" '\n#pragma\na", "a\n");
        fails("#\n#1", 2, 2);
        fails("#foo", 2, 1);
        fails("#Define A", 2, 1);
        fails("# \"define\"", 2, 1);
        gives("##", "##\n");
        fails("##\n#(", 2, 2);
        fails("a\n#error any 'thing", 16, 2);
        fails("a\n#error", 16, 2);
        fails("#define H #\nx\n#\\\nfoo", 2, 3);
        gives("#define H #\nH define A\nx # y", "# define A\nx # y\n");
        fails("#define f(x) x\nf(\n#\n1)", 18, 2);
    }

    private static void conditionParts() {
        gives("#if 1\na\n#else\nb\n#endif\nc", "a\nc\n");
        gives("#if 0\na\n#else\nb\n#endif\nc", "b\nc\n");
        gives("#if 0\na\n#elif 1\nb\n#elif 1\nc\n#else\nd\n#endif", "b\n");
        gives("#if 0\na\n#elif 0\nb\n#elif 0\nc\n#else\nd\n#endif", "d\n");
        gives("#if 0\na\n#elif 0\nb\n#endif\nc", "c\n");
        gives("#if 1\na\n#elif 1/0\nb\n#elif )(\n#elif\n#else\nc\n#endif", "a\n");
        gives("#if 0\n#if 1\na\n#else\nb\n#endif\nc\n#else\nd\n#endif", "d\n");
        gives("#if 1\n#if 0\na\n#else\nb\n#endif\nc\n#else\nd\n#endif", "b\nc\n");
        gives("#if 0\n#if )(\n#elif\n#else x\n#else\n#elif 1\n#endif y\n#ifdef 1 2\n#endif\n#ifndef\n#endif\n#endif\nz", "z\n");
        gives("#if 0\n#foo\n#define\n#error\n#include\n#line\n# 1\n#undef 1\nx ' y\n#endif\nz", "z\n");
        gives("#if 0\n#define A\n#endif\n#ifdef A\na\n#else\nb\n#endif", "b\n");
        gives("#ifdef A\n#elif 1\nx\n#endif", "x\n");
        gives("#ifndef A\nx\n#elif 1\ny\n#endif", "x\n");
        gives("a\n#if 1\nb c\n#endif\nd", "a\nb c\nd\n");
    }

    private static void conditionErrors() {
        for (String word : new String[] {"elif 1", "else", "endif"}) {
            fails("\n#" + word, 13, 2);
        }
        for (String word : new String[] {"else", "endif"}) {
            fails("\n#" + word + " x", 7, 2);
            fails("#if 0\n#" + word + " x", 7, 2);
            fails("#if 1\n#" + word + " 1", 7, 2);
        }
        fails("#if 1\n#else\n#else\n#endif", 13, 3);
        fails("#if 0\n#else\n#else\n#endif", 13, 3);
        fails("#if 1\n#else\n#elif 1\n#endif", 13, 3);
        fails("#if 0\n#else\n#elif )(\n#endif", 13, 3);
        fails("#if 1\n#endif\n#endif", 13, 3);
        fails("#if 1\nx", 14, 1);
        fails("#if 0\nx", 14, 1);
        fails("#if 1\n#if 1\n#endif\n#if 0\n#else\nx", 14, 4);
        fails("#if 0\n#if 1\n#if 1\n#endif\n", 14, 2);
        fails("#if 0\n\n#elif 1/0\n#endif", 12, 3);
        fails("#if 0\n\n#elif (\n#endif", 11, 3);
        fails("#if 0\n\n#elif\n#endif", 11, 3);
        fails("#define f(x) x\n#if f(1", 18, 2);
        fails("#define f(x) x\n#if 1 + \\\n f(1,2)\n", 17, 3);
        fails("#define f(x) x\n#if defined + f(", 11, 2);
    }

    private static void holds(String condition) {
        gives("#define A 2\n#define B\n#define f(x) x\n#if " + condition + "\n1\n#else\n0\n#endif", "1\n");
    }

    private static void conditionValues() {
        String[] held = {"1", "A == 2", "!x", "!(A - 2)", "defined A", "defined(A)", "defined ( B )", "!defined C", "!defined(__LINE__)",
            "!defined __FILE__", "!defined defined", "defined f && f(1)", "f(defined A)", "__LINE__ == 4", "A B", "!f", "1 ? 2 : 0", "0 ? 0 : 2",
            "010 == 8", "0x1F == 31", "0XaB == 171", "0 == 00", "1u == 1", "1l == 1L && 1ll == 1LL", "1ul && 1Ul && 1uL && 1UL && 1ull && 1uLL",
            "1lu && 1LU && 1llu && 1LLU", "'a' == 97", "'\\n' == 10 && '\\t' == 9 && '\\r' == 13 && '\\a' == 7 && '\\b' == 8",
            "'\\f' == 12 && '\\v' == 11 && '\\0' == 0 && '\\\\' == 92 && '\\'' == 39 && '\\\"' == 34 && '\\?' == 63", "'\u00e9' == 233", "'\"' == 34",
            "-1 < 0", "-1 > 0u", "-1 == 0xffffffffffffffff", "0xffffffffffffffff > 0", "01777777777777777777777 == -1", "-1 < 0x7fffffffffffffff",
            "18446744073709551615u == -1", "9223372036854775807 + 1 < 0", "9223372036854775807 + 1u > 0", "0x8000000000000000 > 0",
            "-9223372036854775807 - 1 < 0", "(-9223372036854775807 - 1) / -1 < 0", "(-9223372036854775807 - 1) % -1 == 0",
            "-7 / 2 == -3", "-7 % 3 == -1", "7 / -2 == -3", "-1 / 2u == 9223372036854775807", "-1 % 10u == 5", "-2 / -1u == 0", "-1 / -1u == 1",
            "-1u % -2u == 1", "1 << 63 < 0", "1u << 63 > 0", "1 << 64 == 1", "1 << 65 == 2", "-1 >> 1 == -1", "-1u >> 63 == 1", "-8 >> 1u < 0",
            "1u << -1 > 0", "~0 == -1", "~0u > 0", "-1u > 0", "+1u > -1 == 0", "!1u > -1", "(1 ? -1 : 0u) > 0", "(0 ? 0u : -1) > 0", "(1 == 1u) > -1",
            "(1 && 1u) > -1", "(2 || 1u) > -1", "1 || 1/0", "!(0 && 1/0)", "1 ? 1 : 1/0", "0 ? 1/0 : 1", "0 ? 1/0 ? 1 : 1 : 2", "1 || (1 ? 1/0 : 1%0)",
            "(0 && (1/0 || 1)) || 1", "0 || 0 && 1/0 || 1", "1 ? 0 ? 0 : 3 : 0", "0 ? 0 : 0 ? 0 : 3", "1 ? 2 : 3 ? 0 : 0", "1 + 2 * 3 == 7",
            "(1 | 2 ^ 3 & 4) == 3", "1 + 1 << 1 == 4", "(1 < 2 == 1) == 1", "1 || 0 && 0", "10 - 4 - 3 == 3", "100 / 10 / 5 == 2", "1 < 2", "2 > 1",
            "2 <= 2", "2 >= 2", "1 != 2", "- - 1 == 1", "!!1", "~-1 == 0", "(((1)))"};
        for (String condition : held) {
            holds(condition);
        }
        fails("#define D defined A\n#define A 1\n#if D\n", 11, 3);
        gives("#define D defined\n#if D == 0\n1\n#endif", "1\n");
        gives("#define D defined\n#define f(x) x\n#if f(defined D)\n1\n#endif", "1\n");
        fails("#if 1/0", 12, 1);
        fails("#if 1%0", 12, 1);
        fails("#if 0 || 1/0", 12, 1);
        fails("#if 1 ? 1/0 : 1", 12, 1);
        fails("#if 1/0 && 0", 12, 1);
        fails("#if 1/0 +", 11, 1);
        fails("#if (1/0", 11, 1);
        fails("#if 1 / (2 - 2u)", 12, 1);
    }

    private static void conditionForms() {
        String[] bad = {"", "()", "1 2", "1 +", "* 1", "(1", "1)", "1 ? 2", "1 ? : 2", "1 : 2", "1 ? 2 :", "? 1 : 2", "(1 ? 2) : 3", "1 ? (2 : 3)", "\"a\"",
            "1 = 1", "1 , 2", "1 ; 2", "++1", "1 -- 1", "1 -> 2", "1 ## 2", "#", "08", "0x", "0xg", "1.0", ".5", "1e5", "1uu", "1lul", "1lL", "1Ll", "1lll",
            "1ulu", "0b1", "1x", "18446744073709551616", "18446744073709551616u", "9223372036854775808", "9223372036854775808l",
            "0x10000000000000000", "02000000000000000000000", "0 && 18446744073709551616", "0 && 1.0", "1 || 08", "''", "'ab'", "L'a'", "'\\x'", "'\\12'",
            "'\\e'", "L\"a\"", "'", "defined", "defined 1", "defined ( A", "defined ()", "defined ( 1 )", "defined (A B)", "1 !", "1 ~ 2", "\\", "1 @ 2",
            "1 ... 2", "1 <<= 2", "[1]", "1 ?: 2", "!", "~ )", "() 1", "1 (2)", "f(1)", "1 || ", "&& 1", "1 < > 2", "a b", "0 x"};
        for (String condition : bad) {
            fails("\n #if " + condition + "\n", 11, 2);
            fails("#if 0\n\n#elif " + condition + "\n", 11, 3);
        }
        for (int n : new int[] {60, 61}) {
            String[] nested = {"(".repeat(n) + "1" + ")".repeat(n), "- ".repeat(n) + "1", "1?1:".repeat(n) + "1", "1?".repeat(n) + "1" + ":1".repeat(n),
                "(- ".repeat(n / 2) + (n % 2 == 0 ? "" : "!!") + "1" + ")".repeat(n / 2), "(1?".repeat(n / 2) + (n % 2 == 0 ? "" : "!") + "1" + ":1)".repeat(n / 2)};
            for (String condition : nested) {
                if (n == 60) {
                    gives("#if " + condition + "\n#endif\nx", "x\n");
                } else {
                    fails("#if " + condition + "\n#endif\nx", 11, 1);
                }
            }
        }
        gives("#if " + "(1||1&&1|1^1&1==1<1<<1+1*-".repeat(30) + "1" + ")".repeat(30) + "\n1\n#endif", "1\n");
    }

    private static Bench withFiles(String text, int depth, int error) {
        Bench bench = new Bench().about(text);
        bench.file("m", text);
        bench.file("b.h", "in b\n");
        bench.file("c d", "in c __FILE__ __LINE__\n");
        bench.file("n", "#include \"b.h\"\nin n\n");
        bench.file("e", "#if 1\n");
        bench.file("x", "#endif\n");
        bench.file("\\\"", "odd");
        bench.file("l", "#define L(x) x\n#line 50 \"t\"\nL(__LINE__ __FILE__");
        bench.due("run", bench.mill.run(0, 2, 1, depth), error);
        return bench;
    }

    private static void includes(String text, String want) {
        Bench bench = withFiles(text, 5, 0);
        bench.due("out", bench.out(), want);
    }

    private static void including() {
        includes("a\n#include \"b.h\"\nc", "a\nin b\nc\n");
        includes("#include <b.h>\n#include < b.h >\n#include <c d>\n#include <c \t /**/ d >", "in b\nin b\nin c \"c d\" 1\nin c \"c d\" 1\n");
        includes("#include \"n\"\nx", "in b\nin n\nx\n");
        includes("#define N \"b.h\"\n#define M <b.h>\n#define O <\n#define E\n#include N\n#include M\n#include O b.h>\n#include E \"b.h\" E",
                "in b\nin b\nin b\nin b\n");
        includes("#define b nope\n#define h nope\n#include \"b.h\"\n#include <b.h>", "in nope\nin nope\n");
        includes("#define S(x) #x\n#include S(b.h)", "in b\n");
        includes("#define c C\n#define T <c d>\n#define P(x) <x d>\n#undef c\n#include T\n#include P(c)", "in c \"c d\" 1\nin c \"c d\" 1\n");
        includes("#line 9 \"q\"\n#include \"c d\"\n__LINE__ __FILE__", "in c \"c d\" 1\n10 \"q\"\n");
        includes("#include \"\\\"\"", "odd\n");
        includes("#if 0\n#include \"nope\"\n#endif\nz", "z\n");
    }

    private static void includeFails(String text, int error, int file, int line) {
        Bench bench = withFiles(text, 1, error);
        bench.due("told(0)", bench.mill.told(0), file);
        bench.due("told(1)", bench.mill.told(1), line);
    }

    private static void includingErrors() {
        for (String text : new String[] {"", "b.h", "<b.h", "L\"b.h\"", "'b'", "1", "<<b.h>", "<b.h>>", ">", "\"b.h", "<b->"}) {
            includeFails("\n#include " + text, 8, 0, 2);
        }
        for (String text : new String[] {"\"b.h\" x", "<b.h> x", "\"nope\" 1", "\"b.h\" E", "N x"}) {
            includeFails("#define E\n#define N \"b.h\"\n#include " + text, 7, 0, 3);
        }
        for (String text : new String[] {"\"nope\"", "<nope>", "\"\"", "<>", "\"" + "t".repeat(65) + "\"", "<" + "t ".repeat(65) + ">", "\"b.h \"", "<b .h>"}) {
            includeFails("#include " + text, 9, 0, 1);
        }
        includeFails("\n#include \"n\"", 10, 3, 1);
        withFiles("#include \"b.h\"", 0, 10);
        withFiles("#include \"nope\"", 0, 9);
        includeFails("#if 1\n#include \"e\"\n#endif", 14, 4, 1);
        includeFails("#if 1\n#include \"x\"\n#endif", 13, 5, 1);
        includeFails("#define f(x) x\n#include f(", 18, 0, 2);
        includeFails("#include \"l\"\n)", 18, 7, 3);
        Bench bench = withFiles("x\n#include \"m\"", 20, 10);
        bench.due("told(3)", bench.mill.told(3), 21);
        bench.due("told(1)", bench.mill.told(1), 2);
    }

    private static void telling() {
        gives("__LINE__\n\n __LINE__ __FILE__", "1\n3 \"m\"\n");
        gives("#line 100\n__LINE__\n\n__LINE__ __FILE__\n", "100\n102 \"m\"\n");
        gives("#line 100 \"o\\\\\\\"\"\n__LINE__ __FILE__\n#line 7\n__LINE__ __FILE__", "100 \"o\\\\\\\\\\\\\\\"\"\n7 \"o\\\\\\\\\\\\\\\"\"\n");
        gives("#define N 20 \"t\"\n#line N\n__FILE__ __LINE__", "\"t\" 20\n");
        gives("\n#line __LINE__\n__LINE__", "2\n");
        gives("#line 5 \\\n\n__LINE__\n#line 9 /*\n*/\n__LINE__", "5\n9\n");
        gives("#line 010\n__LINE__\n#line 999999999\n__LINE__\n__LINE__", "10\n999999999\n1000000000\n");
        gives("#line 3 \"\"\n__FILE__", "\"\"\n");
        gives("#line 3 \"" + "t".repeat(64) + "\"\n__FILE__", "\"" + "t".repeat(64) + "\"\n");
        gives("a \\\n__LINE__ \\\n __LI\\\nNE__\n__LINE__ /*\n*/ __LINE__", "a 2 3\n5 6\n");
        gives("#define A __LINE__\n#define f(x) x A __LINE__ x\nA\nf(__LINE__\nA\n)\nA", "3\n4 5 4 4 4 5\n7\n");
        gives("#if __LINE__ == 1 && \\\n __LINE__ == 2\nx\n#endif", "x\n");
        Bench odd = new Bench().about("an odd title");
        odd.file("a\"\\b", "__FILE__");
        odd.due("run", odd.mill.run(0, 2, 1, 0), 0);
        odd.due("out", odd.out(), "\"a\\\"\\\\b\"\n");
        for (String text : new String[] {"", "0", "000", "1234567890", "-1", "x", "1u", "0x5", "1.", "5 6", "5 L\"x\"", "5 'x'", "5 \"x\" 6", "\"x\"", "5 \"x\" \"y\"",
            "5 \"" + "t".repeat(65) + "\""}) {
            fails("\n#line " + text, 15, 2);
        }
        fails("#line 100\n\n#error", 16, 3);
        fails("#line 100 \"o\"\n#define f() 1\nf(", 18, 3);
    }

    private static void firstErrors() {
        // A row is replaced when the next directive, or the file's end, is reached; lines are taken before.
        Bench late = Bench.fails(2, "a b\n#define f(x) x\nc f(1\n\"\n/*", 1, 5);
        late.due("told(3)", late.mill.told(3), 2);
        Bench soon = Bench.fails(2, "#define f(x) x\na f(1\n#error", 18, 2);
        soon.due("told(3)", soon.mill.told(3), 1);
        Bench atEnd = Bench.fails(2, "#define f(x) x\n#if 1\na f(1\n", 18, 3);
        atEnd.due("told(5)", atEnd.mill.told(5), 1);
    }
}
