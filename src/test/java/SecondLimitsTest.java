/** The bounds of the second processor: errors 20 DEEP and 21 ROOM. */
public final class SecondLimitsTest {
    public static void main(String[] args) {
        substitutedTokens();
        sets();
        names();
        macroTokens();
        rowsOfText();
        directives();
        replacedDirectives();
        spellings();
        linesAndQuotes();
        beginnings();
        conditions();
        out();
        depthOfArguments();
        parameters();
        Bench.finish("SecondLimitsTest");
    }

    private static void fine(String text) {
        Bench bench = new Bench().about(text.length() > 200 ? text.substring(0, 200) + " .." : text);
        bench.file("m", text);
        bench.due("run", bench.mill.run(0, 2, 1, 0), 0);
        bench.due("told(1)", bench.mill.told(1), 0);
    }

    private static Bench full(String text, int line) {
        return Bench.fails(2, text, 21, line);
    }

    /** A run of two files, the second one with the title b. */
    private static Bench two(String text, String other, int error, int file, int line) {
        Bench bench = new Bench().about(text.length() > 200 ? text.substring(0, 200) + " .." : text);
        bench.file("m", text);
        bench.file("b", other);
        bench.due("run", bench.mill.run(0, 2, 1, 20), error);
        bench.due("told(0)", bench.mill.told(0), file);
        bench.due("told(1)", bench.mill.told(1), line);
        return bench;
    }

    private static void substitutedTokens() {
        String ones = "#define A 1" + "+1".repeat(999) + "\n#define T 1\n";
        String twenty = "#if A\n#endif\n".repeat(20);
        Bench bench = Bench.gives(2, ones + twenty + "#if T" + "+T".repeat(19) + "\nx\n#endif", "x\n");
        bench.due("told(4)", bench.mill.told(4), 40000);
        bench = full(ones + twenty + "#if T" + "+T".repeat(19) + "\\\n+T\nx\n#endif", 44);
        bench.due("told(4)", bench.mill.told(4), 40000);
        // In arguments they count again when they are put to the call's own.
        String call = ones + "#define f(x) x\n" + "#if f(A)\n#endif\n".repeat(10);
        bench = Bench.gives(2, call + "#if T" + "+T".repeat(19) + "\nx\n#endif", "x\n");
        bench.due("told(4)", bench.mill.told(4), 40000);
        bench = full(call + "#if T" + "+T".repeat(18) + "\\\n+ f(T)\nx\n#endif", 25);
        bench.due("told(4)", bench.mill.told(4), 40000);
        // What an argument became is put at each place, and inner calls count at each place.
        bench = full(ones + "#define f(x) x-x-x\n" + "#if f(A)\n#endif\n".repeat(4), 10);
        bench.due("told(4)", bench.mill.told(4), 40000);
    }

    /** Rows of calls, each of which gives a token another set of these twelve names. */
    private static String setsOf(int count) {
        StringBuilder text = new StringBuilder();
        for (int i = 0; i < 12; i++) {
            text.append("#define n").append(i).append("(x) x\n");
        }
        for (int i = 1; i <= count; i++) {
            String call = "z";
            for (int k = 0; k < 12; k++) {
                if ((i >> k & 1) != 0) {
                    call = "n" + k + "(" + call + ")";
                }
            }
            text.append(call).append(i % 100 == 0 ? "\n#\n" : " ");
        }
        return text.toString();
    }

    private static void sets() {
        fine(setsOf(1000) + setsOf(500));
        full(setsOf(1000) + "\n\nn11(n10(z))", 35);
        fine(setsOf(1000) + "#define e\n#define g(x)\ne g(1) n0(n1(z))");
        full(setsOf(1000) + "#define g(x) x\n\ng(1)", 35);
        // Pasting gives sets, too: P and g are what both sides have in common, one of nine sets that come of this.
        String pasting = "\n#define j(x,y) x##y\n#define P(x) x\n#define Q(x) x\n#define R(x) x\n#define g(x) j x\n\ng((P(Q(a)),P(R(b))))";
        fine(setsOf(991) + pasting);
        full(setsOf(992) + pasting, 12 + 18 + 8);
    }

    private static void names() {
        StringBuilder text = new StringBuilder();
        for (int i = 0; i < 400; i++) {
            text.append("#define n").append(i).append("\n");
        }
        fine(text.toString());
        Bench bench = full(text + "#define m\n", 401);
        bench.due("told(5)", bench.mill.told(5), 400);
        bench.due("parameters", bench.parameters("m"), MacroMill.BAD);
        full(text + "#undef n0\n#undef n1\n#define m\n", 403);
        fine(text + "#undef n0\n#undef n1\n#define n0 1\n#define n5\n");
        Bench.gives(2, text + "#undef n7\n#define n7(x) x\nn399 n7(n8) n7", "n7\n");
    }

    private static void macroTokens() {
        fine("#define A " + "(".repeat(4000) + "\n#define f() " + ")".repeat(4000));
        full("#define A " + "(".repeat(4000) + "\n#define f() " + ")".repeat(4001), 2);
        fine("#define A " + "(".repeat(4000) + "\n#define f(x) " + ")".repeat(3999));
        full("#define A " + "(".repeat(4000) + "\n#define f(x) " + ")".repeat(4000), 2);
        full("#define A " + "(".repeat(4000) + "\n#define f(x,...) " + ")".repeat(3999), 2);
        fine("#define A " + "(".repeat(4000) + "\n#undef A\n#define f() " + ")".repeat(4000) + "\n#define g() " + "(".repeat(4000));
        fine("#define A " + "(".repeat(7990) + "\n#define f(x) x\n#define f(x) x\n#define g(x,y,z) [[[\n#define h");
        full("#define A " + "(".repeat(7990) + "\n#define f(x) x\n#define f(x) x\n#define g(x,y,z) [[[\n#define h 1 2 3", 5);
        // Those that are left must be the same when one before them goes.
        Bench.gives(2, "#define a 1 2 3\n#define b(x,y) y x\n#define c 4 5\n#define e\n#undef a\nb(6,7) c a e\n#undef c\n#define a 8\nb(6,7) c a e",
                "7 6 4 5 a\n7 6 c 8\n");
    }

    private static void rowsOfText() {
        String rows = ("(".repeat(100) + "\n").repeat(79);
        fine("x\n#\n" + rows + "(".repeat(100));
        full("x\n#\n" + rows + "(".repeat(101), 82);
        full("x\n#\n" + rows + "(".repeat(50) + "\n" + "(".repeat(50) + "\\\n\\\n(", 85);
        fine("x\n#\n" + rows + "#\n" + "(".repeat(8000));
        fine("#if 0\n" + rows + "(".repeat(8001) + "\n#endif");
    }

    private static void directives() {
        fine("#define A " + "+ ".repeat(7997));
        full("#define A " + "+ ".repeat(7998), 1);
        fine("#pragma " + "( ".repeat(7998));
        full("\n#pragma " + "( ".repeat(7999), 2);
        full("#if " + "1 ".repeat(7999), 1);
        full("#line " + "1 ".repeat(7999), 1);
        full("#include " + "1 ".repeat(7999), 1);
        Bench.fails(2, "#if " + "1 ".repeat(7998), 11, 1);
        Bench.fails(2, "#line " + "1 ".repeat(7998), 15, 1);
        Bench.fails(2, "#include " + "1 ".repeat(7998), 8, 1);
        full("#if 0\n#elif 1" + "+1".repeat(3999), 2);
        fine("#if 0\n#if " + "(".repeat(9000) + "\n#endif\n#pragma " + "(".repeat(9000) + "\n#endif");
        fine("#if 1\n#elif " + "( ".repeat(9000) + "\n#endif");
        // The least number of those that a directive has.
        Bench.fails(2, "#error " + "( ".repeat(9000), 16, 1);
        Bench.fails(2, "#foo " + "( ".repeat(9000), 2, 1);
        Bench.fails(2, "#undef A " + "( ".repeat(9000), 7, 1);
        Bench.fails(2, "#define 1 " + "( ".repeat(9000), 3, 1);
        Bench.fails(2, "#define A " + "( ".repeat(9000) + "##", 5, 1);
        Bench.fails(2, "#define A\n#define A " + "( ".repeat(9000), 6, 2);
        Bench.fails(2, "#include <" + "( ".repeat(9000) + ">", 9, 1);
        Bench.fails(2, "#if 1\n#else " + "( ".repeat(9000), 7, 2);
    }

    private static void replacedDirectives() {
        String ones = "#define A " + "1 ".repeat(2000) + "\n";
        Bench.fails(2, ones + "#if A A A A", 11, 2);
        Bench bench = full(ones + "#if A A \\\n A A 1", 2);
        bench.due("told(4)", bench.mill.told(4), 8000);
        full(ones + "#if 1 A A A A", 2);
        Bench.fails(2, ones + "#line A A A A", 15, 2);
        full(ones + "#line A A A A 1", 2);
        Bench.fails(2, ones + "#include A A A A", 8, 2);
        full(ones + "#include A A A A 1", 2);
    }

    /** Behind macros whose spellings come to 39993 bytes, from line 9 on. */
    private static Bench behindSpellings(String text, int error, int line) {
        return two("#include \"b\"\n".repeat(8) + text, "#undef a\n#define a " + "x".repeat(4999) + "\n", error, 0, line);
    }

    private static String named(int length) {
        return "#define q " + "y".repeat(length - 1) + "\n";
    }

    private static void spellings() {
        int left = 60000 - 39993;
        behindSpellings(named(left), 0, 0);
        behindSpellings(named(left + 1), 21, 9);
        behindSpellings("#define r zz\n".repeat(9) + named(left - 3), 0, 0);
        behindSpellings("#define r zz\n".repeat(9) + named(left - 2), 21, 18);
        behindSpellings("#define f(x,...) " + "y".repeat(left - 5), 0, 0);
        behindSpellings("#define f(x,...) " + "y".repeat(left - 4), 21, 9);
        behindSpellings(named(left - 2) + "__LINE__\n__LINE__", 21, 11);
        behindSpellings(named(left - 3) + "__FILE__\n", 0, 0);
        behindSpellings(named(left - 2) + "__FILE__\n", 21, 10);
        behindSpellings("#define s(x) #x\n" + named(left - 9) + "\ns(abc\n)", 0, 0);
        behindSpellings("#define s(x) #x\n" + named(left - 8) + "\ns(abc\n)", 21, 12);
        behindSpellings("#define s(x) #x\n" + named(left - 9) + "\ns(a\nb)", 0, 0);
        behindSpellings("#define s(x) #x\n" + named(left - 8) + "\ns(a\nb)", 21, 12);
        behindSpellings("#define s(x) #x\n" + named(left - 9) + "\ns(\"\")", 21, 12);
        String join = "#define j(x,y) x##y\n";
        behindSpellings(join + named(left - 11) + "j(ab,cd)", 0, 0);
        behindSpellings(join + named(left - 10) + "j(ab,cd)", 21, 11);
        behindSpellings(join + named(left - 9) + "j(+,/)", 19, 11);
        behindSpellings(join + named(left - 8) + "j(+,/)", 21, 11);
        behindSpellings(join + named(left - 7) + "j(a,) j(,b) j(,)", 0, 0);
        // Each time anew, when an argument is replaced at several places.
        String twice = "#define f(x) x x\n";
        behindSpellings(twice + named(left - 8) + "\n\nf(__LINE__)", 0, 0);
        behindSpellings(twice + named(left - 7) + "\n\nf(\n__LINE__)", 21, 14);
        Bench macros = behindSpellings("#define g(x) x\n#define q " + "y".repeat(left), 21, 10);
        macros.due("told(5)", macros.mill.told(5), 2);
        macros.due("parameters", macros.parameters("q"), MacroMill.BAD);
    }

    private static void linesAndQuotes() {
        String thousand = "#if 0\n" + "x\n".repeat(998) + "#endif\n";
        two("#include \"b\"\n".repeat(19) + "\n \n/**/\n#if 0\n" + "y\n".repeat(979) + "#endif\n", thousand, 0, 0, 0);
        two("#include \"b\"\n".repeat(19) + "\n \n/**/\n#if 0\n" + "y\n".repeat(979) + "/*\n*/ #endif\n#\n", thousand, 21, 0, 1005);
        String quotes = "'\n\"\n".repeat(500);
        Bench.gives(2, "#if 0\n" + quotes + "#endif\n'x' \"y\"", "'x' \"y\"\n");
        full("#if 0\n" + quotes + "\nx 'y\n#endif", 1003);
        full(quotes + "x \\\n ' /* ", 1002);
        Bench.fails(2, quotes + "x /* ' ", 1, 1001);
        two("#include \"b\"\n".repeat(2), quotes, 21, 1, 1);
    }

    private static void beginnings() {
        two("#include \"b\"\n".repeat(499), "", 0, 0, 0);
        two("#include \"b\"\n".repeat(500), "", 21, 0, 500);
        String main = "#include \"b\"\n".repeat(31);
        two(main + " ".repeat(16384 - main.length()), " ".repeat(16384), 0, 0, 0);
        two(main + " ".repeat(16385 - main.length()), " ".repeat(16383), 0, 0, 0);
        two(main + " ".repeat(16000 - main.length()) + "\n#include \"b\"", " ".repeat(16384), 21, 0, 33);
        // Bytes count as they stand in the files, with those that go before lines are made.
        two(main + "\\\n".repeat(8192 - 202) + "\n", " ".repeat(16384), 0, 0, 0);
        // Of the main file in stage 3 those that the first processor made count.
        Bench bench = new Bench().about("bytes of the main file");
        bench.file("m", "define(`s',`          ')define(`t',`s`'s`'s`'s`'s`'s`'s`'s`'s`'s`'')dnl\n`#'ifdef A\n`#'else\n`#'define A\n"
                + "`#'include \"m\"\n".repeat(60) + "`#'endif\n" + "t`'t`'t`'t`'t`'t`'t`'t`'t`'t`'".repeat(9));
        bench.due("run", bench.mill.run(0, 3, 400000, 1), 21);
        bench.due("told(1)", bench.mill.told(1), 56);
    }

    private static void conditions() {
        for (String word : new String[] {"if 1", "if 0", "ifdef A", "ifndef A"}) {
            Bench.gives(2, ("#" + word + "\n").repeat(100) + "#endif\n".repeat(100) + "x", "x\n");
            full(("#" + word + "\n").repeat(101), 101);
        }
        Bench.fails(2, "#if 1\n".repeat(100) + "#if", 11, 101);
        Bench.fails(2, "#if 1\n".repeat(100) + "#ifdef A A", 7, 101);
        String fifty = "#if 1\n".repeat(50) + "#endif\n".repeat(50);
        two("#if 1\n".repeat(50) + "#include \"b\"\n" + "#endif\n".repeat(50), fifty, 0, 0, 0);
        two("#if 1\n".repeat(51) + "#include \"b\"\n" + "#endif\n".repeat(51), fifty, 21, 1, 50);
    }

    private static void out() {
        String a = "#define a " + "x".repeat(127) + "\n";
        Bench bench = Bench.gives(2, a + "a ".repeat(512), ("x".repeat(127) + " ").repeat(511) + "x".repeat(127) + "\n");
        bench.due("size", bench.mill.size(), 65536);
        bench.due("word(8191)", bench.mill.word(8191), 0x0A78787878787878L);
        bench.due("word(8192)", bench.mill.word(8192), 0);
        bench = full(a + "a ".repeat(512) + "\n z", 3);
        bench.due("told(3)", bench.mill.told(3), 512);
        bench = full(a + "a ".repeat(511) + "\n" + "y".repeat(128), 3);
        bench.due("told(3)", bench.mill.told(3), 511);
        full(a + "a ".repeat(511) + "\n" + "y".repeat(126) + "\nz", 4);
        full(a + "#define f(x) x a\n" + "a ".repeat(511) + "\nf(\nb)", 4);
    }

    private static void depthOfArguments() {
        String macros = "#define f(x) x\n#define g(x) f(x)\n#define h(x) f(f(x))\n";
        Bench.gives(2, macros + "f(".repeat(60) + "1" + ")".repeat(60), "1\n");
        Bench.fails(2, macros + "\n" + "f(".repeat(60) + "\nf(1" + ")".repeat(61), 20, 6);
        Bench.gives(2, macros + "g(".repeat(60) + "1" + ")".repeat(60), "1\n");
        Bench.gives(2, macros + "g(".repeat(58) + "h(1" + ")".repeat(59), "1\n");
        Bench.fails(2, macros + "g(".repeat(59) + "h(1" + ")".repeat(60), 20, 4);
        Bench.fails(2, macros + "#if " + "f(".repeat(61) + "1" + ")".repeat(61), 20, 4);
        Bench.gives(2, macros + "f((".repeat(60) + "1" + "))".repeat(60), "( ".repeat(60) + "1" + " )".repeat(60) + "\n");
    }

    private static String list(int count, String with) {
        StringBuilder text = new StringBuilder();
        for (int i = 0; i < count; i++) {
            text.append(i > 0 ? "," : "").append(with).append(i);
        }
        return text.toString();
    }

    private static void parameters() {
        Bench bench = Bench.gives(2, "#define f(" + list(30, "p") + ") p29 p0\nf(" + list(30, "") + ")", "29 0\n");
        bench.due("parameters", bench.parameters("f"), 30);
        bench = Bench.gives(2, "#define f(" + list(29, "p") + ",...) p28 __VA_ARGS__\nf(" + list(32, "") + ")", "28 29 , 30 , 31\n");
        bench.due("parameters", bench.parameters("f"), 30);
        Bench.fails(2, "#define f(" + list(31, "p") + ") p29", 4, 1);
        Bench.fails(2, "#define f(" + list(30, "p") + ",...) p29", 4, 1);
        Bench.fails(2, "#define f(" + list(30, "p") + ") p29\nf(" + list(31, "") + ")", 17, 2);
        Bench.fails(2, "#define f(x) x\nf(" + list(3000, "") + ")", 17, 2);
    }
}
