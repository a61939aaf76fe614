/** The bounds of the second processor: errors 20 DEEP and 21 ROOM, each with the last value that is taken. */
public final class SecondLimitsTest {
    public static void main(String[] args) {
        substitutedTokens();
        substitutedTokensOfArguments();
        substitutedTokensOfALongArgument();
        substitutedTokensOfEachPlace();
        setsOfNames();
        setsThatComeAgain();
        setsThatNoTokenGets();
        setsOfPasting();
        setsOfPastingAlone();
        setsOfTexts();
        numberOfNames();
        namesThatWereMacros();
        namesThatHideThemselves();
        macroTokens();
        macroParameters();
        macrosThatAreGone();
        macrosThatAreLeft();
        rowOfText();
        rowsOfText();
        rowsThatDontCount();
        longDefine();
        longPragma();
        longCondition();
        longElif();
        longInclude();
        longLine();
        longDirectivesThatDontCount();
        longDirectivesWithLesserErrors();
        replacedCondition();
        replacedInclude();
        replacedLine();
        spellingsOfMacros();
        spellingsOfMacrosThatAreTheSame();
        spellingsOfNamesThatWereMacros();
        spellingsOfParameters();
        spellingsOfLineAndFile();
        spellingsOfTexts();
        spellingsOfPasting();
        spellingsOfEachPlace();
        spellingsLeaveWhatIsThere();
        numberOfLines();
        linesWithoutTokens();
        numberOfQuotes();
        quotesBeforeComments();
        quotesOfEachTime();
        filesBegun();
        bytesOfFilesBegun();
        bytesOfFilesAsTheyStand();
        bytesOfTheMainFileInStage3();
        numberOfConditions();
        conditionsOfAllFiles();
        conditionsWithLesserErrors();
        bytesOfTheOut();
        bytesOfTheOutThatAreTooMuch();
        depthOfArguments();
        depthInDirectives();
        parameters();
        argumentsOfThirtyParameters();
        Bench.finish("SecondLimitsTest");
    }

    private static Bench fine(String text) {
        return Bench.fine(2, text);
    }

    private static Bench full(String text, int line) {
        return Bench.fails(2, text, 21, line);
    }

    /** A run of two files, the second one with the title b. */
    private static Bench two(String text, String other, int error, int file, int line) {
        Bench bench = new Bench().about(text);
        bench.file("m", text);
        bench.file("b", other);
        bench.mill.run(0, 2, 1, 20);
        bench.due("run", bench.mill.run(0, 2, 1, 20), error);
        bench.due("told(0)", bench.mill.told(0), file);
        bench.due("told(1)", bench.mill.told(1), line);
        return bench;
    }

    private static void substituted(Bench bench, int count) {
        bench.due("told(4)", bench.mill.told(4), count);
    }

    private static final String ONES = "#define A 1" + "+1".repeat(999) + "\n#define T 1\n";

    private static void substitutedTokens() {
        String twenty = "#if A\n#endif\n".repeat(20);
        substituted(Bench.gives(2, ONES + twenty + "#if T" + "+T".repeat(19) + "\nx\n#endif", "x\n"), 40000);
        substituted(full(ONES + twenty + "#if T" + "+T".repeat(19) + "\\\n+T\nx\n#endif", 44), 40000);
        Bench text = full(ONES + twenty + "T ".repeat(20) + "\n\nT T", 45);
        substituted(text, 40000);
        text.due("told(3)", text.mill.told(3), 20);
        // A macro without tokens puts none.
        substituted(fine(ONES + twenty + "T ".repeat(20) + "\n#define E\nE E"), 40000);
    }

    private static void substitutedTokensOfArguments() {
        // They count again when they are put to the call's own.
        String call = ONES + "#define f(x) x\n" + "#if f(A)\n#endif\n".repeat(10);
        substituted(Bench.gives(2, call + "#if T" + "+T".repeat(19) + "\nx\n#endif", "x\n"), 40000);
        substituted(Bench.gives(2, call + "#if T" + "+T".repeat(17) + "+f(T)\nx\n#endif", "x\n"), 40000);
        substituted(full(call + "#if T" + "+T".repeat(18) + "\\\n+ f(T)\nx\n#endif", 25), 40000);
        // The macro whose tokens are too many is that of the argument, or the one that it is put to.
        substituted(full(call + "#if T" + "+T".repeat(19) + "\\\n+ f(\\\nT)\nx\n#endif", 26), 40000);
        substituted(full(call + "#if T" + "+T".repeat(18) + "\\\n+ f(\\\nT)\nx\n#endif", 25), 40000);
    }

    /** Before an argument is replaced to its end its tokens are there once more. */
    private static void substitutedTokensOfALongArgument() {
        String start = ONES + "#define f(x) x\nf(" + ";".repeat(7000) + "A ".repeat(20) + "T ".repeat(20);
        Bench bench = full(start + "\n\nT)", 6);
        substituted(bench, 40000);
        bench.due("told(3)", bench.mill.told(3), 0);
        substituted(full(start + "\n\n)", 4), 40000);
        // Two thirds of them are put once more, and that is all that there is room for.
        String half = ONES + "#define f(x) x\n#define e(x)\ne(f(" + ";".repeat(6000);
        substituted(Bench.gives(2, half + ")) f(;;)", "; ;\n"), 2);
    }

    private static void substitutedTokensOfEachPlace() {
        // What an argument became is put at each place, and inner calls count at each place.
        substituted(full(ONES + "#define f(x) x-x-x\n" + "#if f(A)\n#endif\n".repeat(4), 10), 40000);
        String three = ONES + "#define f(x) x-x-x\n" + "#if f(A)\n#endif\n".repeat(3);
        substituted(fine(three), 3 * (3 * 2 * 1999 + 2));
        String calls = "#if f(T)" + "+f(T)".repeat(500);
        substituted(Bench.gives(2, three + calls + "+T".repeat(4) + "\nx\n#endif", "x\n"), 40000);
        substituted(full(three + calls + "+T".repeat(5) + "\nx\n#endif", 10), 40000);
        substituted(full(three + calls + "\\\n+f(T)\nx\n#endif", 11), 40000);
    }

    /** Macros each of which becomes the next one: the calls of all of them give n (n + 1) / 2 sets. */
    private static String chain(int n) {
        StringBuilder text = new StringBuilder();
        for (int i = 0; i < n; i++) {
            text.append("#define c").append(i).append(" c").append(i + 1).append("\n");
        }
        for (int i = 0; i < n; i++) {
            text.append("c").append(i).append(" ");
        }
        return text.append("\n").toString();
    }

    /** Macros each of which gives a set of its own name alone. */
    private static String singles(int n) {
        StringBuilder text = new StringBuilder();
        for (int i = 0; i < n; i++) {
            text.append("#define s").append(i).append(" z\n");
        }
        for (int i = 0; i < n; i++) {
            text.append("s").append(i).append(" ");
        }
        return text.append("\n").toString();
    }

    private static void setsOfNames() {
        fine(chain(44) + singles(10));
        full(chain(44) + singles(11), 45 + 12);
        full(chain(44) + singles(10) + "#define t z\n\nt", 45 + 11 + 3);
        fine(chain(43) + singles(54));
        full(chain(43) + singles(55), 44 + 56);
    }

    private static void setsThatComeAgain() {
        fine(chain(44) + singles(10) + "c0 c1 c2 s0 s1\n#undef s3\n#define s3 y y\ns3 s3 c43");
        full(chain(44) + singles(10) + "c0 c1 c2 s0 s1\n#define s10 y\n\ns3 s10", 45 + 11 + 4);
    }

    private static void setsThatNoTokenGets() {
        fine(chain(44) + singles(10) + "#define e\n#define g(x)\ne g(1) e");
        full(chain(44) + singles(10) + "#define g(x) x\n\ng() g(1)", 45 + 11 + 3);
        fine(chain(44) + singles(10) + "#define g(x) x\n\ng() g()");
    }

    private static void setsOfPasting() {
        // P and g are what both sides of ## have in common, the eighth one of nine sets that come of this.
        String pasting = "\n#define j(x,y) x##y\n#define P(x) x\n#define Q(x) x\n#define R(x) x\n#define g(x) j x\n\ng((P(Q(a)),P(R(b))))";
        fine(chain(44) + singles(1) + pasting);
        for (int more = 2; more <= 3; more++) {
            Bench bench = full(chain(44) + singles(more) + pasting, 45 + more + 1 + 8);
            substituted(bench, 990 + more + 4 + 6 + 1);
        }
        // What they have in common is none: that is no set.
        fine(chain(44) + singles(9) + "#define j(x,y) x##y\nj(a,b)");
        full(chain(44) + singles(10) + "#define j(x,y) x##y\nj(a,b)", 45 + 11 + 2);
    }

    /** All sets but that of the pasted token, and then its last one, were there before. */
    private static void setsOfPastingAlone() {
        String macros = "\n#define j(x,y) x##y\n#define P(x) x\n#define Q(x) x\n#define R(x) x\n#define g(x) j x\n\n";
        String pasting = macros + "g((P(Q(a)),))\ng((P(Q(a)),P(R(b))))";
        fine(chain(44) + singles(0) + pasting);
        full(chain(44) + singles(1) + pasting, 45 + 2 + 9);
        full(chain(44) + singles(2) + pasting, 45 + 3 + 9);
    }

    /** A TEXT made by # has no set of its own. */
    private static void setsOfTexts() {
        fine(chain(44) + singles(9) + "#define t(x) #x x\nt(1)");
        full(chain(44) + singles(10) + "#define t(x) #x\nt(1)", 45 + 11 + 2);
    }

    private static String names(int count) {
        StringBuilder text = new StringBuilder();
        for (int i = 0; i < count; i++) {
            text.append("#define n").append(i).append("\n");
        }
        return text.toString();
    }

    private static void numberOfNames() {
        Bench most = fine(names(400));
        most.due("told(5)", most.mill.told(5), 400);
        most.due("parameters", most.parameters("n399"), MacroMill.NONE);
        Bench more = full(names(400) + "#define m\n", 401);
        more.due("told(5)", more.mill.told(5), 400);
        more.due("parameters", more.parameters("m"), MacroMill.BAD);
        more.due("parameters", more.parameters("n399"), MacroMill.NONE);
        Bench.gives(2, names(399) + "#define m(x) x\nm(n0 n398 a)", "a\n");
    }

    private static void namesThatWereMacros() {
        full(names(400) + "#undef n0\n#undef n1\n#define m\n", 403);
        fine(names(400) + "#undef n0\n#undef n1\n#define n0 1\n#define n5\n#define n1(x) x\n");
        Bench.gives(2, names(400) + "#undef n7\n#define n7(x) x\nn399 n7(n8) n7", "n7\n");
        // Names that were none are not among them.
        fine(names(400) + "#undef m\n#ifdef p\n#endif\n#if defined q\n#endif\nr");
    }

    /** All of 400 names hide themselves, the last ones as the first ones. */
    private static void namesThatHideThemselves() {
        StringBuilder text = new StringBuilder();
        StringBuilder want = new StringBuilder();
        for (int i = 0; i < 400; i++) {
            text.append("#define n").append(i).append(" n").append(i).append("\n");
            want.append(i > 0 ? " n" : "n").append(i);
        }
        Bench.gives(2, text.append(want).toString(), want.append("\n").toString());
        String filled = names(394);
        Bench.gives(2, filled + "#define f(x) x g\n#define g(x) x f\nf(1)(2)(3)(4)", "1 2 3 4 f\n");
        Bench.gives(2, "#define f(x) x g\n" + filled + "#define g(x) x f\nf(1)(2)(3)(4)", "1 2 3 4 f\n");
        Bench.gives(2, "#define f(x) x f\n" + filled + "#define g f(1)\n#define h g(2)\nf(1)(2) g(2) h", "1 f ( 2 ) 1 f ( 2 ) 1 f ( 2 )\n");
        Bench.gives(2, filled + "#define A B\n#define B C x\n#define C A y\nA B C", "A y x B y x C x y\n");
    }

    private static void macroTokens() {
        fine("#define A " + "(".repeat(4000) + "\n#define B " + ")".repeat(4000));
        Bench bench = full("#define A " + "(".repeat(4000) + "\n#define B " + ")".repeat(4001), 2);
        bench.due("told(5)", bench.mill.told(5), 1);
        bench.due("parameters", bench.parameters("B"), MacroMill.BAD);
        fine("#define A " + "(".repeat(4000) + "\n#define B " + ")".repeat(4000) + "\n#define C\n#define D()");
        full("#define A " + "(".repeat(4000) + "\n#define B " + ")".repeat(4000) + "\n#define C\n#define D x", 4);
    }

    private static void macroParameters() {
        String a = "#define A " + "(".repeat(4000) + "\n";
        fine(a + "#define f() " + ")".repeat(4000));
        full(a + "#define f() " + ")".repeat(4001), 2);
        fine(a + "#define f(x) " + ")".repeat(3999));
        full(a + "#define f(x) " + ")".repeat(4000), 2);
        fine(a + "#define f(x,...) " + ")".repeat(3998));
        full(a + "#define f(x,...) " + ")".repeat(3999), 2);
    }

    private static void macrosThatAreGone() {
        String b = "#undef A\n#define A " + "(".repeat(3000) + "\n";
        two("#include \"b\"\n".repeat(9) + "#define B " + ")".repeat(5000), b, 0, 0, 0);
        two("#include \"b\"\n".repeat(9) + "#define B " + ")".repeat(5001), b, 21, 0, 10);
        two("#include \"b\"\n".repeat(9) + "#undef A\n#define B " + ")".repeat(5001), b, 0, 0, 0);
        String most = "#define A " + "(".repeat(7990) + "\n#define f(x) x\n#define f(x) x\n#define g(x,y,z) [[[\n#define h";
        fine(most + " 1 2");
        full(most + " 1 2 3", 5);
    }

    private static void macrosThatAreLeft() {
        Bench.gives(2, "#define a 1 2 3\n#define b(x,y) y x\n#define c 4 5\n#define e\n#undef a\nb(6,7) c a e\n#undef c\n#define a 8\nb(6,7) c a e",
                "7 6 4 5 a\n7 6 c 8\n");
        Bench.gives(2, "#define a 1 2\n#define b 3 4 5\n#undef a\n#define a 6 7\n#undef b\n#define c 8 9 10\na c", "6 7 8 9 10\n");
    }

    private static void rowOfText() {
        String rows = ("(".repeat(100) + "\n").repeat(79);
        fine("x\n#\n" + rows + "(".repeat(100));
        full("x\n#\n" + rows + "(".repeat(101), 82);
        full("x\n#\n" + rows + "(".repeat(50) + "\n" + "(".repeat(50) + "\\\n\\\n(", 85);
        Bench bench = full("x\n#\n" + "(".repeat(8000) + "\n\n;", 5);
        bench.due("told(3)", bench.mill.told(3), 1);
        fine("(".repeat(8000));
        full("(".repeat(8001), 1);
    }

    private static void rowsOfText() {
        fine("(".repeat(4500) + "\n#\n" + "(".repeat(4500));
        two("(".repeat(4000) + "\n#include \"b\"\n" + "(".repeat(10), "(".repeat(4500), 0, 0, 0);
        full("(".repeat(4500) + "\n \n" + "(".repeat(4500), 3);
    }

    private static void rowsThatDontCount() {
        fine("#if 0\n" + "(".repeat(4000) + "\n" + "(".repeat(4001) + "\n#endif");
        fine("#if 0\n" + "(".repeat(8001) + "\n#endif");
    }

    private static void longDefine() {
        fine("#define A " + "(".repeat(7997));
        full("\n#define A " + "(".repeat(7998), 2);
        fine("#define f(x) " + "(".repeat(7994));
        full("\n#define f(x) " + "(".repeat(7995), 2);
        Bench.fails(2, "#define A " + "(".repeat(8100) + "##", 5, 1);
    }

    private static void longPragma() {
        fine("#pragma " + "(".repeat(7998));
        full("\n#pragma " + "(".repeat(7999), 2);
        full("a\n\\\n #pragma " + "(".repeat(7999), 3);
        fine(";".repeat(4500) + "\n#pragma " + "(".repeat(4000));
    }

    private static void longCondition() {
        Bench.gives(2, "#if -1" + "+1".repeat(3998) + "\nx\n#endif", "x\n");
        full("\n#if 1" + "+1".repeat(3999) + "\nx\n#endif", 2);
        Bench.fails(2, "#if " + "(".repeat(7998), 11, 1);
        full("#if " + "(".repeat(7999), 1);
        full("#if 1" + "+1".repeat(4200) + "\nx\n#endif", 1);
    }

    private static void longElif() {
        Bench.gives(2, "#if 0\n#elif -1" + "+1".repeat(3998) + "\nx\n#endif", "x\n");
        full("#if 0\n#elif 1" + "+1".repeat(3999) + "\nx\n#endif", 2);
        full("#if 0\n#elif 0\n#elif " + "(".repeat(7999) + "\nx\n#endif", 3);
        Bench.gives(2, "#if 1\n#elif " + "(".repeat(8100) + "\n#endif\nx", "x\n");
        Bench.fails(2, "#if 0\n#else\n#elif " + "(".repeat(8100) + "\n#endif\nx", 13, 3);
        Bench.fails(2, "#elif " + "(".repeat(8100) + "\n#endif\nx", 13, 1);
    }

    private static void longInclude() {
        Bench.fails(2, "#include " + "(".repeat(7998), 8, 1);
        full("\n#include " + "(".repeat(7999), 2);
        Bench.fails(2, "#include <" + "(".repeat(8100) + ">", 9, 1);
        Bench.fails(2, "#include <" + "(".repeat(8100) + "> x", 7, 1);
        full("#include <" + "(".repeat(8100), 1);
    }

    private static void longLine() {
        Bench.fails(2, "#line " + "(".repeat(7998), 15, 1);
        full("\n#line " + "(".repeat(7999), 2);
    }

    private static void longDirectivesThatDontCount() {
        for (String word : new String[] {"if", "ifdef", "ifndef"}) {
            fine("#if 0\n#" + word + " " + "(".repeat(8100) + "\n#endif\n#endif");
        }
        for (String word : new String[] {"pragma", "define", "include", "line", "error", "elif", "foo"}) {
            fine("#if 0\n#if 0\n#" + word + " " + "(".repeat(8100) + "\n#endif\n#endif");
        }
        fine("#if 0\n#if 0\n#else " + "(".repeat(8100) + "\n#endif (\n#endif");
    }

    private static void longDirectivesWithLesserErrors() {
        String[] words = {"error", "foo", "undef A", "ifdef A", "ifndef A", "define 1", "undef", "if defined"};
        int[] errors = {16, 2, 7, 7, 7, 3, 3, 11};
        for (int i = 0; i < words.length; i++) {
            Bench.fails(2, "\n#" + words[i] + " " + "(".repeat(8100), errors[i], 2);
        }
        Bench.fails(2, "#define A\n#define A " + "(".repeat(8100), 6, 2);
        Bench.fails(2, "#if 1\n#else " + "(".repeat(8100), 7, 2);
        Bench.fails(2, "#if 1\n#endif " + "(".repeat(8100), 7, 2);
        Bench.fails(2, "#define f(x " + "(".repeat(8100), 4, 1);
    }

    private static void replacedCondition() {
        Bench.gives(2, ONES + "#if -A+A+A+A\nx\n#endif", "x\n");
        substituted(full(ONES + "#if - -A+A+A\\\n+A\nx\n#endif", 3), 4 * 1999);
        substituted(full(ONES + "#if A+A+A+A-T-1\nx\n#endif", 3), 4 * 1999 + 1);
        Bench.gives(2, ONES + "#if 0\n#elif -A+A+A+A\nx\n#endif", "x\n");
        full(ONES + "#if 0\n#elif - -A+A+A+A\nx\n#endif", 4);
        // What is asked by defined is one token.
        Bench.gives(2, ONES + "#if !defined(A)" + "+1".repeat(999) + "+A+A+A\nx\n#endif", "x\n");
        full(ONES + "#if !!defined(A)" + "+1".repeat(999) + "+A+A+A\nx\n#endif", 3);
    }

    private static void replacedInclude() {
        String a = "#define A " + "(".repeat(2000) + "\n";
        Bench.fails(2, a + "#include A A A A", 8, 2);
        full(a + "#include A A A \\\n A (", 2);
        full(a + "#include ( A A A A", 2);
    }

    private static void replacedLine() {
        String a = "#define A " + "(".repeat(2000) + "\n";
        Bench.fails(2, a + "#line A A A A", 15, 2);
        full(a + "#line A A A A (", 2);
        full(a + "#line ( A A A A", 2);
    }

    /** Behind 19 definitions of a macro, whose spellings leave room for 2999 bytes; the text begins in line 20. */
    private static Bench behindSpellings(String text, int error, int line) {
        return two("#include \"b\"\n".repeat(19) + text, "#undef a\n#define a " + "x".repeat(3000) + "\n", error, 0, line);
    }

    private static final int LEFT = 60000 - 1 - 19 * 3000;

    /** A macro whose spellings have so many bytes. */
    private static String named(int length) {
        return "#define q " + "y".repeat(length - 1) + "\n";
    }

    private static void spellingsOfMacros() {
        behindSpellings(named(LEFT), 0, 0);
        behindSpellings(named(LEFT + 1), 21, 20);
        behindSpellings("#define q(q) " + "y ".repeat(LEFT - 2), 0, 0);
        behindSpellings("#define q(q) " + "y ".repeat(LEFT - 1), 21, 20);
        behindSpellings(named(LEFT) + "#define r", 21, 21);
        behindSpellings(named(LEFT) + "#undef q\n#define q\n#undef a\n#define a()\na() q", 0, 0);
    }

    private static void spellingsOfMacrosThatAreTheSame() {
        behindSpellings("#define r zz\n".repeat(9) + named(LEFT - 3), 0, 0);
        behindSpellings("#define r zz\n".repeat(9) + named(LEFT - 2), 21, 29);
    }

    private static void spellingsOfNamesThatWereMacros() {
        String five = "#define r zz\n" + "#undef r\n#define r zz\n".repeat(4);
        behindSpellings(five + named(LEFT - 11), 0, 0);
        behindSpellings(five + named(LEFT - 10), 21, 29);
    }

    private static void spellingsOfParameters() {
        behindSpellings("#define f(x,...) " + "y".repeat(LEFT - 5), 0, 0);
        behindSpellings("#define f(x,...) " + "y".repeat(LEFT - 4), 21, 20);
        behindSpellings("#define f() " + "y".repeat(LEFT - 1), 0, 0);
        behindSpellings("#define f() " + "y".repeat(LEFT), 21, 20);
        behindSpellings("#define f(xyz) " + "y".repeat(LEFT - 4), 0, 0);
        behindSpellings("#define f(xyz) " + "y".repeat(LEFT - 3), 21, 20);
    }

    private static void spellingsOfLineAndFile() {
        behindSpellings(named(LEFT - 4) + "__LINE__\n__LINE__", 0, 0);
        Bench second = behindSpellings(named(LEFT - 3) + "__LINE__\n__LINE__", 21, 22);
        second.due("told(3)", second.mill.told(3), 1);
        behindSpellings(named(LEFT - 9) + "#line 123456789\n__LINE__", 0, 0);
        behindSpellings(named(LEFT - 8) + "#line 123456789\n__LINE__", 21, 22);
        behindSpellings(named(LEFT - 3) + "__FILE__\n", 0, 0);
        behindSpellings(named(LEFT - 2) + "__FILE__\n", 21, 21);
        behindSpellings(named(LEFT - 4) + "#line 9 \"\\\"\n__FILE__\n", 15, 21);
        behindSpellings(named(LEFT - 6) + "#line 9 \"\\\\\"\n__FILE__\n", 0, 0);
        behindSpellings(named(LEFT - 5) + "#line 9 \"\\\\\"\n__FILE__\n", 21, 22);
        behindSpellings(named(LEFT - 2) + "#if __LINE__\n#endif", 0, 0);
        behindSpellings(named(LEFT - 1) + "#if __LINE__\n#endif", 21, 21);
    }

    private static void spellingsOfTexts() {
        String s = "#define s(x) #x\n";
        behindSpellings(s + named(LEFT - 9) + "\ns(abc\n)", 0, 0);
        behindSpellings(s + named(LEFT - 8) + "\ns(abc\n)", 21, 23);
        behindSpellings(s + named(LEFT - 9) + "\ns(a\nb)", 0, 0);
        behindSpellings(s + named(LEFT - 8) + "\ns(a\nb)", 21, 23);
        behindSpellings(s + named(LEFT - 10) + "\ns(\"\")", 0, 0);
        behindSpellings(s + named(LEFT - 9) + "\ns(\"\")", 21, 23);
        behindSpellings(s + named(LEFT - 6) + "\ns()", 0, 0);
        behindSpellings(s + named(LEFT - 5) + "\ns()", 21, 23);
    }

    private static void spellingsOfPasting() {
        String join = "#define j(x,y) x##y\n";
        behindSpellings(join + named(LEFT - 11) + "j(ab,cd)", 0, 0);
        behindSpellings(join + named(LEFT - 10) + "j(ab,cd)", 21, 22);
        // Error 21 for the spelling comes before 19.
        behindSpellings(join + named(LEFT - 9) + "j(+,/)", 19, 22);
        behindSpellings(join + named(LEFT - 8) + "j(+,/)", 21, 22);
        behindSpellings(join + named(LEFT - 7) + "j(a,) j(,b) j(,)", 0, 0);
        // Each of two makes a spelling: ab, then abc.
        String three = "#define k a##b##c\n";
        behindSpellings(three + named(LEFT - 8 - 5) + "k", 0, 0);
        behindSpellings(three + named(LEFT - 8 - 4) + "k", 21, 22);
    }

    private static void spellingsOfEachPlace() {
        String twice = "#define f(x) x x\n";
        behindSpellings(twice + named(LEFT - 8) + "\n\nf(__LINE__)", 0, 0);
        behindSpellings(twice + named(LEFT - 7) + "\n\nf(\n__LINE__)", 21, 25);
        String thrice = "#define f(x) x x x\n";
        behindSpellings(thrice + named(LEFT - 11) + "\n\nf(__LINE__)", 0, 0);
        behindSpellings(thrice + named(LEFT - 10) + "\n\nf(\n__LINE__)", 21, 25);
        behindSpellings(thrice + named(LEFT - 11) + "\n\nf(__LINE__)\n__LINE__", 21, 25);
    }

    private static void spellingsLeaveWhatIsThere() {
        Bench truth = behindSpellings(named(LEFT) + "#if defined a && !defined b\nx\n#endif", 0, 0);
        truth.due("out", truth.out(), "x\n");
        Bench macros = behindSpellings("#define g(x) x\n#define q " + "y".repeat(LEFT), 21, 21);
        macros.due("told(5)", macros.mill.told(5), 2);
        macros.due("parameters", macros.parameters("q"), MacroMill.BAD);
        macros.due("parameters", macros.parameters("g"), 1);
        macros.due("parameters", macros.parameters("a"), MacroMill.NONE);
    }

    private static void numberOfLines() {
        String thousand = "#if 0\n" + "x\n".repeat(998) + "#endif\n";
        String main = "#include \"b\"\n".repeat(19) + "#if 0\n" + "y\n".repeat(979) + "#endif\n";
        two(main, thousand, 0, 0, 0);
        two(main + "\n\n\\\n x", thousand, 21, 0, 1004);
        two("#include \"b\"\n".repeat(20), thousand, 21, 1, 981);
    }

    private static void linesWithoutTokens() {
        String thousand = "#if 0\n" + "x\n".repeat(998) + "#endif\n";
        String main = "#include \"b\"\n".repeat(19) + "\n \n/**/\n//\n\\\n\n#if 0\n" + "y\n".repeat(979) + "#endif\n \n/*\n*/\n";
        two(main, thousand, 0, 0, 0);
        two(main + "/*\n*/ #\n", thousand, 21, 0, 1011);
    }

    private static final String QUOTES = "'\n\"\n".repeat(500);

    private static void numberOfQuotes() {
        Bench.gives(2, "#if 0\n" + QUOTES + "#endif\n'x' \"y\" L'z'", "'x' \"y\" L'z'\n");
        full("#if 0\n" + QUOTES + "\nx 'y\n#endif", 1003);
        full(QUOTES + "L'", 1001);
        full("'\n".repeat(999) + "'\n'a\n\n", 1001);
        full("'\n".repeat(1000) + "a \"b\\\n c '\\\n\n", 1001);
    }

    private static void quotesBeforeComments() {
        full(QUOTES + "x \\\n ' /* ", 1002);
        Bench.fails(2, QUOTES + "x /* ' ", 1, 1001);
        Bench.gives(2, "#if 0\n" + QUOTES + "#endif\nx // '\n/* ' */", "x\n");
        // A line is taken to its end before its tokens are counted.
        Bench.fails(2, "(".repeat(8001) + "/*", 1, 1);
        full("(".repeat(8001) + "\n/*", 1);
    }

    private static void quotesOfEachTime() {
        two("#include \"b\"\n".repeat(2), QUOTES, 21, 1, 1);
        two("#include \"b\"\n".repeat(10), "'\n".repeat(100), 0, 0, 0);
        two("#include \"b\"\n".repeat(10) + "a\n'", "'\n".repeat(100), 21, 0, 12);
    }

    private static void filesBegun() {
        two("#include \"b\"\n".repeat(499), "", 0, 0, 0);
        two("#include \"b\"\n".repeat(500), "", 21, 0, 500);
        two("#include \"b\"\n".repeat(499) + "#include \"n\"\n", "", 9, 0, 500);
        Bench bench = new Bench().about("10 before 21");
        bench.file("m", "#include \"b\"\n".repeat(499) + "#include \"b\"\n");
        bench.file("b", "");
        bench.due("run", bench.mill.run(0, 2, 1, 0), 10);
        bench.due("told(1)", bench.mill.told(1), 1);
    }

    private static void bytesOfFilesBegun() {
        String main = "#include \"b\"\n".repeat(127);
        String b = " ".repeat(4096);
        two(main + " ".repeat(4096 - main.length()), b, 0, 0, 0);
        two(main + " ".repeat(4097 - main.length()), b, 21, 0, 127);
        two(main + " ".repeat(4096 - main.length()), b + "\n", 21, 0, 127);
        two(main + "#include \"b\"" + " ".repeat(4000 - main.length()), b, 21, 0, 128);
    }

    private static void bytesOfFilesAsTheyStand() {
        String main = "#include \"b\"\n".repeat(127);
        two(main + "\\\n".repeat(1222) + "\n", "\\\n".repeat(2048), 0, 0, 0);
        two(main + "\\\n".repeat(1222) + "\n\n", "\\\n".repeat(2048), 21, 0, 127);
        two(main + "/*" + " ".repeat(2441) + "*/", "//" + " ".repeat(4094), 0, 0, 0);
        two(main + "/*" + " ".repeat(2442) + "*/", "//" + " ".repeat(4094), 21, 0, 127);
    }

    private static void bytesOfTheMainFileInStage3() {
        // Made bytes are 9812: 53 of them are not more than 524288, the include in line 56 asks for the 54th.
        Bench bench = new Bench().about("bytes of the main file");
        bench.file("m", "define(`s',`          ')define(`t',`s`'s`'s`'s`'s`'s`'s`'s`'s`'s`'')dnl\n`#'ifdef A\n`#'else\n`#'define A\n"
                + "`#'include \"m\"\n".repeat(60) + "`#'endif\n" + "t`'t`'t`'t`'t`'t`'t`'t`'t`'t`'".repeat(9));
        bench.dueError(bench.mill.run(0, 3, 400000, 1), 21, 0, 56);
        // Made bytes are 14: 499 within the main one are none too much, whatever its own bytes are.
        bench = new Bench().about("few bytes of the main file");
        bench.file("m", "dnl" + " ".repeat(3000) + "\n`#'include \"b\"\n");
        bench.file("b", "`#'ifndef A\n`#'define A\n" + "`#'include \"m\"\n".repeat(20) + "`#'endif\n");
        bench.due("run", bench.mill.run(0, 3, 400000, 20), 0);
    }

    private static void numberOfConditions() {
        for (String word : new String[] {"if 1", "if 0", "ifdef A", "ifndef A"}) {
            Bench.gives(2, ("#" + word + "\n").repeat(100) + "#endif\n".repeat(100) + "x", "x\n");
            full(("#" + word + "\n").repeat(101), 101);
        }
        Bench.gives(2, "#if 0\n".repeat(100) + "#endif\n".repeat(99) + "#else\nx\n#if 1\ny\n#endif\n#endif", "x\ny\n");
        Bench.gives(2, "#if 1\n#endif\n".repeat(300) + "x", "x\n");
        full("#if 0\n".repeat(100) + "#endif\n".repeat(99) + "#elif 1\n" + "#if 1\n".repeat(100), 300);
    }

    private static void conditionsOfAllFiles() {
        String fifty = "#if 1\n".repeat(50) + "#endif\n".repeat(50);
        two("#if 1\n".repeat(50) + "#include \"b\"\n" + "#endif\n".repeat(50), fifty, 0, 0, 0);
        two("#if 1\n".repeat(51) + "#include \"b\"\n" + "#endif\n".repeat(51), fifty, 21, 1, 50);
    }

    private static void conditionsWithLesserErrors() {
        Bench.fails(2, "#if 1\n".repeat(100) + "#if", 11, 101);
        Bench.fails(2, "#if 1\n".repeat(100) + "#if 1/0", 12, 101);
        Bench.fails(2, "#if 1\n".repeat(100) + "#ifdef A A", 7, 101);
        Bench.fails(2, "#if 1\n".repeat(100) + "#ifndef", 3, 101);
        full("#if 0\n".repeat(100) + "#ifdef A A", 101);
    }

    private static final String A127 = "#define a " + "x".repeat(127) + "\n";

    private static void bytesOfTheOut() {
        Bench bench = Bench.gives(2, A127 + "a ".repeat(512), ("x".repeat(127) + " ").repeat(511) + "x".repeat(127) + "\n");
        bench.due("size", bench.mill.size(), 65536);
        bench.due("word(8191)", bench.mill.word(8191), 0x0A78787878787878L);
        bench.due("word(8192)", bench.mill.word(8192), 0);
        bench.due("told(3)", bench.mill.told(3), 512);
        bench = Bench.gives(2, A127 + "a ".repeat(511) + "y".repeat(125) + "\nz", ("x".repeat(127) + " ").repeat(511) + "y".repeat(125) + "\nz\n");
        bench.due("size", bench.mill.size(), 65536);
    }

    private static void bytesOfTheOutThatAreTooMuch() {
        Bench bench = full(A127 + "a ".repeat(512) + "\n z", 3);
        bench.due("told(3)", bench.mill.told(3), 512);
        bench = full(A127 + "a ".repeat(511) + "\n" + "y".repeat(128), 3);
        bench.due("told(3)", bench.mill.told(3), 511);
        full(A127 + "a ".repeat(511) + "\n" + "y".repeat(126) + "\nz", 4);
        full(A127 + "#define f(x) x a\n" + "a ".repeat(511) + "\nf(\nb)", 4);
        Bench inB = two(A127 + "a ".repeat(511) + "\n#include \"b\"\n", "\n" + "y".repeat(128), 21, 1, 2);
        inB.due("size", inB.mill.size(), 0);
    }

    private static void depthOfArguments() {
        String macros = "#define f(x) x\n#define g(x) f(x)\n#define h(x) f(f(x))\n";
        Bench.gives(2, macros + "f(".repeat(60) + "1" + ")".repeat(60), "1\n");
        Bench.fails(2, macros + "\n" + "f(".repeat(60) + "\nf(1" + ")".repeat(61), 20, 6);
        Bench.gives(2, macros + "g(".repeat(60) + "1" + ")".repeat(60), "1\n");
        Bench.gives(2, macros + "g(".repeat(58) + "h(1" + ")".repeat(59), "1\n");
        Bench.fails(2, macros + "g(".repeat(59) + "h(1" + ")".repeat(60), 20, 4);
        Bench.gives(2, macros + "f((".repeat(60) + "1" + "))".repeat(60), "( ".repeat(60) + "1" + " )".repeat(60) + "\n");
        // An argument that is not replaced doesn't count.
        String others = "#define f(x) x\n#define n(x) 0\n#define s(x) #x\n#define j(x) x##1\n";
        Bench.gives(2, others + "f(".repeat(60) + "n(f(1)) s(f(1)) j(f)" + ")".repeat(60), "0 \"f(1)\" f1\n");
        Bench.fails(2, others + "f(".repeat(60) + "n(1) f(1)" + ")".repeat(61), 20, 5);
        Bench.fails(2, others + "f(".repeat(60) + "n(" + list(40, "") + ")" + ")".repeat(60), 17, 5);
        // Behind one another they are not in one another.
        Bench.gives(2, macros + "f(1) ".repeat(100), "1 ".repeat(99) + "1\n");
    }

    private static void depthInDirectives() {
        String f = "#define f(x) x\n";
        Bench.gives(2, f + "#if " + "f(".repeat(60) + "1" + ")".repeat(60) + "\nx\n#endif", "x\n");
        Bench.fails(2, f + "\n#if " + "f(".repeat(61) + "1" + ")".repeat(61), 20, 3);
        Bench.gives(2, f + "#define T 1\n#if 2 + " + "f(".repeat(60) + "T" + ")".repeat(60) + " == 3\nx\n#endif", "x\n");
        Bench.fails(2, f + "#line " + "f(".repeat(60) + "\\\nf(1" + ")".repeat(61), 20, 3);
        Bench.fails(2, f + "#include " + "f(".repeat(61) + "1" + ")".repeat(61), 20, 2);
    }

    private static String list(int count, String with) {
        StringBuilder text = new StringBuilder();
        for (int i = 0; i < count; i++) {
            text.append(i > 0 ? "," : "").append(with).append(i);
        }
        return text.toString();
    }

    private static void parameters() {
        Bench bench = Bench.gives(2, "#define f(" + list(30, "p") + ") p29 p0\nf(" + list(30, "") + ")", "29 0\n");
        bench.due("parameters", bench.parameters("f"), 30);
        bench = Bench.gives(2, "#define f(" + list(29, "p") + ",...) p28 __VA_ARGS__\nf(" + list(32, "") + ")", "28 29 , 30 , 31\n");
        bench.due("parameters", bench.parameters("f"), 30);
        bench = Bench.fails(2, "#define f(" + list(31, "p") + ") p29", 4, 1);
        bench.due("parameters", bench.parameters("f"), MacroMill.BAD);
        Bench.fails(2, "#define f(" + list(30, "p") + ",...) p29", 4, 1);
        Bench.fails(2, "#define f(" + list(30, "p") + ",p0) p29", 4, 1);
    }

    private static void argumentsOfThirtyParameters() {
        String f = "#define f(" + list(30, "p") + ") p29\n";
        Bench.fails(2, f + "f(" + list(29, "") + ")", 17, 2);
        Bench.fails(2, f + "f(" + list(31, "") + ")", 17, 2);
        Bench.fails(2, "#define f(x) x\nf(" + list(1500, "") + ")", 17, 2);
        Bench.gives(2, "#define f(x,...) x\nf(" + list(1500, "") + ")", "0\n");
    }
}
