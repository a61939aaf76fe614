/** Each sentence of the document that names an edge of the second processor, but its bounds of room. */
public final class SecondEdgesTest {
    public static void main(String[] args) {
        bytesWithinALine();
        bytesAtALinesBeginning();
        blanksAndLineEnds();
        splices();
        commentEnds();
        commentsWithoutEnd();
        quotesInOneLine();
        numbersAndPoints();
        endsOfFilesEndTokens();
        endsOfFilesEndComments();
        kindsOfTokensThatAreMade();
        bytesOfTitles();
        endsOfPastedTokens();
        signs();
        directiveNames();
        namesLikeOthers();
        tokensOfLongerLines();
        parametersOfMacros();
        hashes();
        definedAgain();
        namesOfDirectives();
        titlesOfIncludes();
        titlesBetweenSigns();
        replacedTitles();
        depths();
        definedNames();
        decimalNumbers();
        hexNumbers();
        octalNumbers();
        suffixes();
        characters();
        escapes();
        nesting();
        shiftCounts();
        leastValue();
        kindsOfValues();
        divisionsThatAreNeeded();
        conditionsThatAreNone();
        balance();
        endsOfFiles();
        partsThatDontCount();
        lineNumbers();
        lineTitles();
        linesBehindLine();
        lineInItsFileAlone();
        endsOfRows();
        numberOfArguments();
        argumentsWithoutEnd();
        emptyArguments();
        pastedTokens();
        setsOfPastedTokens();
        theOut();
        filesAndLinesOfErrors();
        leastNumber();
        Bench.finish("SecondEdgesTest");
    }

    private static Bench gives(String text, String want) {
        return Bench.gives(2, text, want);
    }

    private static Bench fails(String text, int error, int line) {
        return Bench.fails(2, text, error, line);
    }

    private static void holds(String condition) {
        gives("#if " + condition + "\n1\n#else\n0\n#endif", "1\n");
    }

    private static void isNone(String condition) {
        fails("\n#if " + condition + "\n#endif", 11, 2);
    }

    private static boolean isLetter(int b) {
        return b >= 65 && b <= 90 || b >= 97 && b <= 122 || b == 95;
    }

    private static boolean isDigit(int b) {
        return b >= 48 && b <= 57;
    }

    private static boolean isBlank(int b) {
        return b == 32 || b == 9 || b == 11 || b == 12 || b == 13;
    }

    private static void bytesWithinALine() {
        for (int b = 0; b < 256; b++) {
            String between = " " + (char) b + " ";
            if (isLetter(b) || isDigit(b)) {
                between = Character.toString((char) b);
            } else if (isBlank(b)) {
                between = " ";
            } else if (b == 10) {
                between = "\n";
            }
            gives("a" + (char) b + "c", "a" + between + "c\n");
        }
    }

    private static void bytesAtALinesBeginning() {
        for (int b = 0; b < 256; b++) {
            String text = (char) b + "1";
            if (b == '#') {
                fails(text, 2, 1);
            } else if (isLetter(b) || isDigit(b) || b == '.') {
                gives(text, text + "\n");
            } else if (isBlank(b) || b == 10) {
                gives(text, "1\n");
            } else {
                gives(text, (char) b + " 1\n");
            }
        }
    }

    private static void blanksAndLineEnds() {
        for (int b = 0; b < 256; b++) {
            if (isBlank(b)) {
                gives("#define A x" + (char) b + "A\nA", "x A\n");
                gives("#define" + (char) b + "A" + (char) b + "(x)\nA", "( x )\n");
            }
        }
        gives("#define A x\nA", "x\n");
        gives("a\r\nb\n\rc", "a\nb\nc\n");
    }

    private static void splices() {
        gives("a\\\nb", "ab\n");
        gives("a\\\n\\\n\\\nb", "ab\n");
        gives("a\\\r\nb", "a \\\nb\n");
        gives("a\\ \nb", "a \\\nb\n");
        gives("a\\", "a \\\n");
        gives("a\\\n", "a\n");
        gives("\\\n", "");
        gives("a\\\\\n\nb", "a \\\nb\n");
        gives("a\\\\\nb", "a \\ b\n");
        gives("#def\\\nine A\\\n 1\nA", "1\n");
        gives("\"a\\\\\n\"\"", "\"a\\\"\"\n");
        gives("+\\\n+ 1\\\n2 .\\\n.\\\n.", "++ 12 ...\n");
    }

    private static void commentEnds() {
        gives("a/**/b", "a b\n");
        gives("a/***/b", "a b\n");
        gives("a/*/*/b", "a b\n");
        gives("a/* /* */b*/", "a b * /\n");
        gives("a//", "a\n");
        gives("a//\nb", "a\nb\n");
        gives("a///*\nb", "a\nb\n");
        gives("a/", "a /\n");
        gives("a/ /b", "a / / b\n");
        gives("/*\n*/#define A 1\nA", "1\n");
        gives("#define A /*\n*/ 1\nA", "1\n");
        gives("a /*\n\n*/ b\nc", "a b\nc\n");
        gives("a*/b", "a * / b\n");
        gives("a//\\\nb\nc", "a\nc\n");
    }

    private static void commentsWithoutEnd() {
        fails("/*", 1, 1);
        fails("/*/", 1, 1);
        fails("\n a /* b\n\n", 1, 2);
        fails("\\\n\\\n/* *", 1, 3);
        fails("/* *\\\n", 1, 1);
        fails("/*\n*/ /*", 1, 2);
        fails("#if 0\n#endif /*\n", 1, 2);
        fails("a // \\\n /*\nb /*", 1, 3);
        Bench error = fails("#define A\na\n#define B\nb\n/*", 1, 5);
        error.due("told(3)", error.mill.told(3), 1);
        error.due("told(5)", error.mill.told(5), 2);
    }

    private static void quotesInOneLine() {
        gives("\"a\" 'b' L\"c\" L'd'", "\"a\" 'b' L\"c\" L'd'\n");
        gives("\"\" '' L\"\" L''", "\"\" '' L\"\" L''\n");
        gives("\"a\n\"", "\" a\n\"\n");
        gives("'a\nL'", "' a\nL '\n");
        gives("\"\\\"\" '\\'' \"\\\\\"", "\"\\\"\" '\\'' \"\\\\\"\n");
        gives("\"\\\"", "\" \\ \"\n");
        gives("\"a\\", "\" a \\\n");
        gives("\"'\" '\"'", "\"'\" '\"'\n");
        gives("\"/*\" '//' /*\"*/ x", "\"/*\" '//' x\n");
        gives("' /* x */ y", "' y\n");
        gives("' // x ' y", "' // x ' y\n");
        gives("L \"a\" l\"b\" xL\"c\"", "L \"a\" l \"b\" xL \"c\"\n");
        gives("'a /*\n'*/ b'", "' a b '\n");
        // A 92 that comes before an LF when another one went doesn't take that along.
        gives("\"a\\\\\n\nb\"", "\" a \\\nb \"\n");
    }

    private static void numbersAndPoints() {
        gives("1 12a_B .5 5. 1.2.3 1..2", "1 12a_B .5 5. 1.2.3 1..2\n");
        gives("1e+1 1E-1 1p+1 1P-1 1e+-1 1f+1 1e 1e+", "1e+1 1E-1 1p+1 1P-1 1e+ - 1 1f + 1 1e 1e+\n");
        gives("0x1e+1 1+1 1-1 .5e-3.x", "0x1e+1 1 + 1 1 - 1 .5e-3.x\n");
        gives(". .. ... .... ..... .a ..5 ...5 ....5", ". . . ... ... . ... . . . a . .5 ... 5 ... .5\n");
        gives("1'2' 1\"2\" 1L'x'", "1 '2' 1 \"2\" 1L 'x'\n");
    }

    /** A file's end ends its last token, whatever lies behind it. */
    private static void endsOfFilesEndTokens() {
        String[][] pairs = {{"L", "'x'"}, {"L", "\"x\""}, {".", "5"}, {"+", "+"}, {"<", "<="}, {"<<", "="}, {"-", ">"}, {"/", "/ x"}, {"/", "="}, {"a #", "x #"}, {"'", "'"}, {"\"", "\""}, {"a", "b"}, {"1", "2"},
            {"1e", "+"}, {"\\", "n"}, {"&", "&"}, {".", "..."}, {"1.", "5"}, {"a", "1"}};
        for (String[] pair : pairs) {
            Bench bench = new Bench().about(pair[0] + " and " + pair[1]);
            bench.file("m", "#include \"b\"\n#include \"c\"");
            bench.file("b", pair[0]);
            bench.file("c", pair[1]);
            bench.mill.run(0, 2, 1, 1);
            bench.due("run", bench.mill.run(0, 2, 1, 1), 0);
            bench.due("out", bench.out(), pair[0] + "\n" + pair[1] + "\n");
        }
        Bench bench = new Bench().about("points");
        bench.file("m", "#include \"b\"\n#include \"c\"");
        bench.file("b", "a..");
        bench.file("c", ".b");
        bench.mill.run(0, 2, 1, 1);
        bench.due("run", bench.mill.run(0, 2, 1, 1), 0);
        bench.due("out", bench.out(), "a . .\n. b\n");
        bench = new Bench().about("quotes, a comment and a splice at a file's end");
        bench.file("b", "a\\");
        bench.file("c", "\nb");
        bench.file("d", "\"x\\");
        bench.file("e", "\" /");
        bench.file("f", "* x */ y");
        String[] want = {"a \\\n", "b\n", "\" x \\\n", "\" /\n", "* x * / y\n"};
        for (int i = 0; i < want.length; i++) {
            bench.due("run", bench.mill.run(i, 2, 1, 1), 0);
            bench.due("out", bench.out(), want[i]);
        }
        bench.file("m", "#include \"b\"\n#include \"c\"\n#include \"d\"\n#include \"e\"\n#include \"f\"");
        for (int i = 0; i < 3; i++) {
            bench.due("run", bench.mill.run(5, 2, 1, 1), 0);
            bench.due("out", bench.out(), String.join("", want));
        }
    }

    /** A comment's end is not what a run before left behind the file. */
    private static void endsOfFilesEndComments() {
        Bench bench = new Bench().about("a comment without an end");
        bench.file("m", "/* */a");
        bench.file("n", "/* *");
        for (int i = 0; i < 2; i++) {
            bench.due("run", bench.mill.run(0, 2, 1, 0), 0);
            bench.due("out", bench.out(), "a\n");
            bench.dueError(bench.mill.run(1, 2, 1, 0), 1, 1, 1);
        }
    }

    /** What comes of __FILE__ and of pasting is a token of its own kind. */
    private static void kindsOfTokensThatAreMade() {
        String macros = "#define s(x) #x\n#define t(x) s(x)\n#define j(x,y) x##y\n";
        gives(macros + "t(__FILE__) t(j(L,\"q\")) t(j(L,'\\0')) t(-__LINE__)", "\"\\\"m\\\"\" \"L\\\"q\\\"\" \"L'\\\\0'\" \"-4\"\n");
        gives(macros + "#define ab <\n#define x1 >\nj(a,b) j(x,1) j(a b,b c)", "< > a bb c\n");
        gives(macros + "#if __LINE__ == 4 && j(1,2) == 12 && j(0x,1) == 1 && !j(a,b)\nx\n#endif", "x\n");
    }

    /** A title may have any bytes. */
    private static void bytesOfTitles() {
        Bench bench = new Bench().about("bytes of titles");
        bench.file("a\0b\n\"\\\u00ff", "__FILE__\n#ifndef A\n#define A\n#include __FILE__\n#endif");
        bench.file("c\0", "__FILE__\n#ifndef A\n#define A\n#include __FILE__\n#endif");
        bench.due("run", bench.mill.run(0, 2, 1, 1), 9);
        bench.due("run", bench.mill.run(1, 2, 1, 1), 0);
        bench.due("out", bench.out(), "\"c\0\"\n\"c\0\"\n");
        bench.file("d", "#line 7 __FILE__\n__LINE__ __FILE__");
        bench.due("run", bench.mill.run(2, 2, 1, 1), 0);
        bench.due("out", bench.out(), "7 \"d\"\n");
        bench.file("e\n\"", "__FILE__");
        bench.due("run", bench.mill.run(3, 2, 1, 1), 0);
        bench.due("out", bench.out(), "\"e\n\\\"\"\n");
    }

    /** What is pasted ends where it ends, whatever a run before left behind it. */
    private static void endsOfPastedTokens() {
        String[][] pairs = {{"<<,=", "<,<", "<<"}, {"ab,c", "a,b", "ab"}, {"12,3", "1,2", "12"}, {"1e,+", "1,e", "1e"}, {"L,\"a\"", "x,L", "xL"}, {"xL,y", "L,\"a\"", "L\"a\""}, {"-,-", "a,b", "ab"}};
        for (String[] pair : pairs) {
            Bench bench = new Bench().about(pair[0] + " and " + pair[1]);
            bench.file("m", "#define j(x,y) x##y\nj(" + pair[0] + ")");
            bench.file("n", "#define j(x,y) x##y\nj(" + pair[1] + ")");
            for (int i = 0; i < 2; i++) {
                bench.due("run", bench.mill.run(0, 2, 1, 0), 0);
                bench.due("run", bench.mill.run(1, 2, 1, 0), 0);
                bench.due("out", bench.out(), pair[2] + "\n");
            }
        }
    }

    private static void signs() {
        String[] signs = {"...", "<<=", ">>=", "->", "++", "--", "<<", ">>", "<=", ">=", "==", "!=", "&&", "||", "*=", "/=", "%=", "+=", "-=", "&=", "^=", "|=",
            "##", "[", "]", "(", ")", "{", "}", ".", "&", "*", "+", "-", "~", "!", "/", "%", "<", ">", "^", "|", "?", ":", ";", "=", ","};
        for (String sign : signs) {
            gives("x" + sign + "y", "x " + sign + " y\n");
            gives(sign + "\n" + sign + "@", sign + "\n" + sign + " @\n");
        }
        String[] none = {"~=", "::", "**", "!!", "^^", "<>", "%%", "=<", "=>", "->*", "&&=", "||=", "===", "!==", "<<<", ">>>", "<:", "%:", "##=", ";;", "=!", "-+"};
        String[] parted = {"~ =", ": :", "* *", "! !", "^ ^", "< >", "% %", "= <", "= >", "-> *", "&& =", "|| =", "== =", "!= =", "<< <", ">> >", "< :", "% :",
            "## =", "; ;", "= !", "- +"};
        for (int i = 0; i < none.length; i++) {
            gives("x" + none[i] + "y", "x " + parted[i] + " y\n");
        }
    }

    private static void directiveNames() {
        gives("#\n # \n#/**/\n\\\n#\nx", "x\n");
        for (String bad : new String[] {"1", "\"define\"", "(", "#", "foo", "Define", "defined", "DEFINE", "define1", "els", "endifs", "L'x'", "'", "fine", "e", "f", "def", "dif", "lse", "ine", "lude", "clude", "defin", "i", "ifd", "ifde", "ifnde", "lin", "err", "prag", "und", "undefine", "iff",
            "ifelse"}) {
            fails("\n# " + bad + "\n", 2, 2);
        }
        gives("## define A\n@#\nx # y", "## define A\n@ #\nx # y\n");
        gives("#pragma\n#pragma 1 ( '\n#pragma #\nx", "x\n");
        fails("#error", 16, 1);
        fails("x\n\n#error a b '\n", 16, 3);
        gives("#define EMPTY\nEMPTY # define A\nA", "# define A\nA\n");
    }

    /** A name that differs from a known one in a single letter is any name. */
    private static void namesLikeOthers() {
        for (String known : new String[] {"defined", "__LINE__", "__FILE__", "__VA_ARGS__"}) {
            for (int i = 0; i < known.length(); i++) {
                String like = known.substring(0, i) + "q" + known.substring(i + 1);
                gives(like + "\n#define " + like + " 5\n" + like + "\n#undef " + like + "\n#if !" + like + "\nx\n#endif", like + "\n5\nx\n");
                gives("#define f(...) " + like + "\nf(1)", like + "\n");
            }
        }
        for (String known : "define undef ifdef ifndef include if elif else endif line error pragma".split(" ")) {
            for (int i = 0; i < known.length(); i++) {
                fails("#" + known.substring(0, i) + "q" + known.substring(i + 1), 2, 1);
            }
        }
        fails("#define f(1..) x", 4, 1);
        fails("#define f(x,2..) x", 4, 1);
    }

    /** What a longer line before had is no token of this one. */
    private static void tokensOfLongerLines() {
        String[] directives = {"undef", "define", "ifdef", "ifndef", "include", "line", "if", "if defined", "if defined (", "if defined (A", "define f(", "define f(x", "define f(x,", "define A", "define f()",
            "define f(x)", "define f(x) #", "include <t", "", "error", "pragma", "undef A", "line 5", "define f(x) x", "include \"no\"", "define A 1 ##"};
        int[] errors = {3, 3, 3, 3, 8, 15, 11, 11, 11, 11, 4, 4, 4, 0, 0, 0, 5, 8, 0, 16, 0, 0, 0, 0, 9, 5};
        String[] before = {"#pragma " + "A ".repeat(12), "#pragma " + ") ".repeat(12), "#pragma " + "( ".repeat(12), "#pragma " + "\"t\" ".repeat(12), "#pragma " + "5 ".repeat(12), "#pragma " + "## ".repeat(12),
            "#pragma " + "# ".repeat(12), "#pragma " + "__VA_ARGS__ ".repeat(12), "#pragma " + ", ".repeat(12), "#pragma " + "> ".repeat(12), "#define g(x) " + "x ".repeat(12), "#pragma " + "A ) ".repeat(12),
            "#pragma " + ") A ".repeat(12)};
        for (String line : before) {
            for (int i = 0; i < directives.length; i++) {
                Bench bench = new Bench().about(line + " and " + directives[i]);
                bench.file("m", line + "\n#" + directives[i] + "\n");
                bench.due("run", bench.mill.run(0, 2, 1, 0), errors[i]);
                bench.due("told(1)", bench.mill.told(1), errors[i] == 0 ? 0 : 2);
            }
        }
    }

    private static void parametersOfMacros() {
        String[] fine = {"f()", "f( )", "f(x)", "f( x , y )", "f(...)", "f(x,...)", "f( ... )", "f(f)", "f(defined,__LINE__,__FILE__)", "f(x) x", "f(...) __VA_ARGS__",
            "f (x", "f", "f 1", "f(x)(", "f(x)/**/x"};
        for (String text : fine) {
            Bench.fine(2, "#define " + text);
        }
        String[] bad = {"f(", "f(x", "f(x,", "f(x,)", "f(,)", "f(,x)", "f(x y)", "f(x;)", "f(x,x)", "f(x,y,x)", "f(1)", "f(\"x\")", "f(...,x)", "f(...,...)", "f(x...)", "f(... x)",
            "f(__VA_ARGS__)", "f(x,__VA_ARGS__)", "f(x) __VA_ARGS__", "f() __VA_ARGS__", "f __VA_ARGS__", "f 1 ## __VA_ARGS__", "f((x))", "f(x,(", "f(.)", "f(..)"};
        for (String text : bad) {
            Bench bench = fails("\n#define " + text, 4, 2);
            bench.due("told(5)", bench.mill.told(5), 0);
        }
    }

    private static void hashes() {
        for (String text : new String[] {"A ##", "A ## x", "A x ##", "A ####", "f(x) ##", "f(x) ## x", "f(x) x ##", "f(x) #", "f(x) x #", "f(x) # y", "f(x) #1", "f(x) # #x", "f(x) #x #",
            "f() #", "f() #x", "f(...) #x", "f(x) x ## #", "f(x) # ## x"}) {
            Bench bench = fails("\n#define " + text, 5, 2);
            bench.due("told(5)", bench.mill.told(5), 0);
        }
        for (String text : new String[] {"A #", "A # x", "A x #", "A x ## y", "A x ## ## y", "A # ## #", "f(x) #x", "f(x) # x", "f(x) x ## x", "f(x) x ## #x", "f(...) #__VA_ARGS__", "f (#"}) {
            Bench.fine(2, "#define " + text);
        }
    }

    private static void definedAgain() {
        String[][] same = {{"A", "A"}, {"A 1", "A   1"}, {"A 1", "A/**/1"}, {"A 1 2", "A 1\t 2"}, {"A 1 2", "A 1/**/2"}, {"f(x) x", "f( x )x"}, {"f(x,y) x", "f(x , y)  x"}, {"f()", "f( )"},
            {"f(...) 1", "f( ... ) 1"}, {"A (x)", "A  (x)"}, {"A x", "A \\\nx"}};
        for (String[] pair : same) {
            Bench bench = Bench.fine(2, "#define " + pair[0] + "\n#define " + pair[1]);
            bench.due("told(5)", bench.mill.told(5), 1);
        }
        String[][] other = {{"A", "A 1"}, {"A 1", "A"}, {"A 1", "A 2"}, {"A 1 2", "A 12"}, {"A x y", "A x y z"}, {"A -1", "A - 1"}, {"A", "A()"}, {"A()", "A"}, {"f(x)", "f(y)"}, {"f(x) x", "f(y) y"},
            {"f(x)", "f(x,y)"}, {"f(x,y)", "f(y,x)"}, {"f(x)", "f(x,...)"}, {"f(...)", "f(x)"}, {"f(x) 1", "f (x) 1"}, {"A 'x'", "A L'x'"}, {"A 1", "A 1u"}};
        for (String[] pair : other) {
            Bench bench = fails("#define " + pair[0] + "\n\n#define " + pair[1], 6, 3);
            bench.due("told(5)", bench.mill.told(5), 1);
        }
        Bench kept = fails("#define f(x) x\n#define f(x,y) x", 6, 2);
        kept.due("parameters", kept.parameters("f"), 1);
        Bench.fine(2, "#define A 1\n#undef A\n#define A 2");
    }

    private static void namesOfDirectives() {
        String[] none = {"", "1", "(", "\"A\"", "'A'", "L'A'", "#", "defined", "__LINE__", "__FILE__", "__VA_ARGS__", "1 A", "defined A", "__FILE__ ## #"};
        for (String word : new String[] {"define", "undef", "ifdef", "ifndef"}) {
            for (String name : none) {
                fails("\n#" + word + " " + name + "\n", 3, 2);
            }
        }
        for (String word : new String[] {"undef", "ifdef", "ifndef"}) {
            fails("\n#" + word + " A B\n", 7, 2);
            fails("\n#" + word + " A ()\n", 7, 2);
            Bench.fine(2, "#" + word + " A /**/ // x\n" + (word.equals("undef") ? "" : "#endif\n"));
        }
        Bench.fine(2, "#define defined_\n#undef __LINE\n#ifdef VA_ARGS\n#endif\n#define __line__ 1");
        gives("#define A\n#undef A\n#undef A\n#ifdef A\nx\n#else\ny\n#endif", "y\n");
    }

    private static Bench withTitle(String title, String text, int error) {
        Bench bench = new Bench().about(text);
        bench.file("m", text);
        bench.file(title, "in\n");
        bench.due("run", bench.mill.run(0, 2, 1, 1), error);
        bench.due("told(1)", bench.mill.told(1), error == 0 ? 0 : 2);
        bench.due("out", bench.out(), error == 0 ? "in\n" : "");
        return bench;
    }

    private static void titlesOfIncludes() {
        String longest = "t".repeat(64);
        withTitle(longest, "\n#include \"" + longest + "\"", 0);
        withTitle(longest, "\n#include \"" + longest + "t\"", 9);
        withTitle(longest, "\n#include \"" + "t".repeat(63) + "\"", 9);
        withTitle(longest, "\n#include \"" + "t".repeat(1000) + "\"", 9);
        withTitle("t", "\n#include \"t\"", 0);
        withTitle("t", "\n#include \"\"", 9);
        withTitle("t", "\n#include \"T\"", 9);
        withTitle("t", "\n#include \" t\"", 9);
        withTitle("\\\"t", "\n#include \"\\\"t\"", 0);
        withTitle("\"t", "\n#include \"\\\"t\"", 9);
        withTitle("t", "\n#include L\"t\"", 8);
        withTitle("t", "\n#include 't'", 8);
        withTitle("t", "\n#include", 8);
        withTitle("t", "\n#include t", 8);
        withTitle("t", "\n#include \"t", 8);
        withTitle("t", "\n#include \"t\" \"t\"", 7);
        withTitle("t", "\n#include \"u\" x", 7);
        withTitle("t", "\n#include \"t\" // x", 0);
    }

    private static void titlesBetweenSigns() {
        String longest = "t".repeat(64);
        withTitle(longest, "\n#include <" + longest + ">", 0);
        withTitle(longest, "\n#include <" + longest + "t>", 9);
        withTitle(longest, "\n#include <" + longest + " t>", 9);
        withTitle(longest, "\n#include <" + "t".repeat(63) + " t>", 9);
        withTitle("t " + "t".repeat(62), "\n#include < t \t" + "t".repeat(62) + " >", 0);
        withTitle("a/b.h", "\n#include <a/b.h>", 0);
        withTitle("a / b", "\n#include <a / b>", 0);
        withTitle("a b", "\n#include <  a /**/ b  >", 0);
        withTitle("<a", "\n#include <<a>", 8);
        withTitle("< a", "\n#include < < a>", 0);
        withTitle("'a' \"b\"", "\n#include <'a' \"b\">", 0);
        withTitle("t", "\n#include <>", 9);
        withTitle("t", "\n#include <t> x", 7);
        withTitle("t", "\n#include <u> >", 7);
        withTitle("t", "\n#include <t", 8);
        withTitle("t", "\n#include <t->", 8);
        withTitle("t", "\n#include <t>>", 8);
        withTitle("t", "\n#include >t>", 8);
    }

    private static void replacedTitles() {
        withTitle("t", "#define T \"t\"\n#include T", 0);
        withTitle("t", "#define T <t>\n#include T", 0);
        withTitle("t", "#define T t>\n#include <T", 0);
        withTitle("t", "#define T\n#include T \"t\" T", 0);
        withTitle("t", "#define T <\n#include T t>", 0);
        withTitle("t", "#define T\n#include T", 8);
        withTitle("t", "#define T L\"t\"\n#include T", 8);
        withTitle("t", "#define T \"t\" x\n#include T", 7);
        withTitle("t", "#define T \"u\"\n#include T", 9);
        withTitle("t", "#define t u\n#include <t>", 0);
        withTitle("u", "#define t u\n#include <t", 8);
    }

    private static void depths() {
        for (int depth = 0; depth <= 20; depth++) {
            Bench bench = new Bench().about("depth " + depth);
            bench.file("m", "x\n#include \"m\"");
            bench.dueError(bench.mill.run(0, 2, 1, depth), 10, 0, 2);
            bench.due("told(3)", bench.mill.told(3), depth + 1);
        }
        Bench bench = new Bench().about("20 files within one another");
        for (int i = 0; i <= 20; i++) {
            bench.file("f" + i, i < 20 ? "a" + i + "\n#include \"f" + (i + 1) + "\"\n" : "last");
        }
        bench.due("run", bench.mill.run(0, 2, 1, 20), 0);
        bench.due("told(3)", bench.mill.told(3), 21);
        bench.dueError(bench.mill.run(0, 2, 1, 19), 10, 19, 2);
        bench.due("told(3)", bench.mill.told(3), 20);
        bench.due("run", bench.mill.run(1, 2, 1, 19), 0);
        bench.dueError(bench.mill.run(19, 2, 1, 0), 10, 19, 2);
        bench.due("run", bench.mill.run(20, 2, 1, 0), 0);
        bench.due("out", bench.out(), "last\n");
        // Files behind one another are not within one another.
        bench = new Bench().about("depth 1");
        bench.file("m", "#include \"b\"\n".repeat(30));
        bench.file("b", "x\n");
        bench.due("run", bench.mill.run(0, 2, 1, 1), 0);
        bench.due("told(3)", bench.mill.told(3), 30);
    }

    private static void definedNames() {
        String a = "#define A 0\n#define D defined\n#define f(x) x\n";
        for (String text : new String[] {"defined A", "defined(A)", "defined ( A )", "!defined B", "!defined __LINE__", "!defined(__FILE__)", "!defined defined", "!defined __VA_ARGS__",
            "defined D", "defined f", "!D", "f(defined A)", "defined A == 1", "defined(A)+defined(D) == 2", "defined A && !A"}) {
            gives(a + "#if " + text + "\n1\n#endif", "1\n");
        }
        for (String text : new String[] {"defined", "defined 1", "defined(", "defined()", "defined(A", "defined(1)", "defined(A B)", "defined((A))", "defined \"A\"", "defined +", "1 || defined",
            "0 && defined 1", "D A", "D(A)", "f(defined)"}) {
            fails(a + "#if " + text + "\n#endif", 11, 4);
        }
    }

    private static void decimalNumbers() {
        for (String text : new String[] {"9223372036854775807 > 0", "9223372036854775807u > 0", "9223372036854775808u > 9223372036854775807", "18446744073709551615u + 1 == 0",
            "18446744073709551615u == -1", "9223372036854775807 + 1 < 0", "-9223372036854775807 - 1 < 0", "9223372036854775808U != 0", "1"}) {
            holds(text);
        }
        for (String text : new String[] {"9223372036854775808", "9223372036854775808l", "9223372036854775808LL", "18446744073709551615", "18446744073709551616", "18446744073709551616u",
            "18446744073709551620u", "99999999999999999999u", "100000000000000000000000u", "1 || 9223372036854775808", "-9223372036854775808", "0 ? 18446744073709551616u : 1"}) {
            isNone(text);
        }
    }

    private static void hexNumbers() {
        for (String text : new String[] {"0x0 == 0", "0xF == 15", "0Xf == 15", "0xABCDEFabcdef == 188900977659375", "0x7fffffffffffffff == 9223372036854775807", "0x7fffffffffffffff > -1",
            "0x8000000000000000 > -1 == 0", "0x8000000000000000 == 9223372036854775808u", "0xffffffffffffffff == -1", "0xFFFFFFFFFFFFFFFF > 0", "0x00000000000000000000000000001 == 1",
            "0x8000000000000000l > 0"}) {
            holds(text);
        }
        for (String text : new String[] {"0x", "0X", "0xg", "0x1g", "x1", "0x10000000000000000", "0xfffffffffffffffff", "0x10000000000000000u", "0xu", "0x.1", "0x1.0", "0x1.", "00x1"}) {
            if (text.equals("x1")) {
                gives("#if " + text + "\n#else\n1\n#endif", "1\n");
            } else {
                isNone(text);
            }
        }
    }

    private static void octalNumbers() {
        for (String text : new String[] {"0 == 00", "00 == 000", "07 == 7", "010 == 8", "0777777777777777777777 == 9223372036854775807", "0777777777777777777777 > -1",
            "01000000000000000000000 == 9223372036854775808u", "01000000000000000000000 > 0", "01777777777777777777777 == -1", "00000000000000000000000000000001 == 1", "0u == 0", "0l == 0"}) {
            holds(text);
        }
        for (String text : new String[] {"08", "09", "018", "0778", "02000000000000000000000", "07777777777777777777777", "02000000000000000000000u", "0a", "0.1", "01.", "0.", "0e1"}) {
            isNone(text);
        }
    }

    private static void suffixes(String suffix) {
        String lower = suffix.toLowerCase();
        boolean alike = !suffix.contains("lL") && !suffix.contains("Ll");
        boolean fine = alike && (lower.isEmpty() || lower.equals("u") || lower.equals("l") || lower.equals("ll") || lower.equals("ul") || lower.equals("ull") || lower.equals("lu")
                || lower.equals("llu"));
        for (String number : new String[] {"1", "01", "0x1"}) {
            if (!fine) {
                isNone(number + suffix);
            } else {
                holds("(" + number + suffix + " - 2 > 0) == " + (lower.contains("u") ? 1 : 0));
            }
        }
        if (suffix.length() < 4) {
            for (char letter : new char[] {'u', 'U', 'l', 'L'}) {
                suffixes(suffix + letter);
            }
        }
    }

    private static void suffixes() {
        suffixes("");
        for (String text : new String[] {"1x", "1f", "1lx", "1ux", "1_", "1ulx", "0u0"}) {
            isNone(text);
        }
        for (int b = 0; b < 256; b++) {
            if ((isLetter(b) || b == '.') && "uUlL".indexOf(b) < 0) {
                isNone("1" + (char) b);
                isNone("1u" + (char) b);
                isNone("1l" + (char) b);
                if (b != 'x' && b != 'X') {
                    isNone("0" + (char) b);
                }
            }
        }
        // A macro's number ends where it ends, whatever name was made behind it.
        for (String name : new String[] {"u", "l", "ll", "x1", "X", "ul", "e1"}) {
            gives("#define N 1\n#define " + name + "\n#if N - 2 < 0\nx\n#endif", "x\n");
            gives("#define N 0\n#define " + name + "\n#if N - 1 < 0\nx\n#endif", "x\n");
            gives("#define N 1l\n#define " + name + "\n#if N - 2 < 0\nx\n#endif", "x\n");
            gives("#define N 1u\n#define " + name + "\n#if N - 2 > 0\nx\n#endif", "x\n");
        }
    }

    private static void characters() {
        for (int b = 0; b < 256; b++) {
            if (b != 10 && b != 39 && b != 92) {
                holds("'" + (char) b + "' == " + b);
            }
        }
        for (String text : new String[] {"''", "'ab'", "L'a'", "L''", "'\\'", "'", "'a", "'abc'", "'\u00e9\u00e9'", "\"a\"", "'a' 'b'", "1 || ''"}) {
            isNone(text);
        }
        holds("-'a' < 0");
        holds("'\u00ff' > '\u007f'");
        holds("'\\n' - 11 < 0");
        holds("'\u00ff' - 256 < 0");
        for (String text : new String[] {"1 'ab'", "1 ''", "1 L'a'", "1 '\\x'", "'ab' 1", "1 \"a\"", "1 L\"a\"", "\"a\" 1", "1 ...", "1 <<=", "... 1"}) {
            isNone(text);
        }
    }

    private static void escapes() {
        String known = "ntrabfv0\\'\"?";
        int[] values = {10, 9, 13, 7, 8, 12, 11, 0, 92, 39, 34, 63};
        for (int b = 0; b < 256; b++) {
            int at = known.indexOf(b);
            if (at >= 0) {
                holds("'\\" + (char) b + "' == " + values[at]);
            } else {
                isNone("'\\" + (char) b + "'");
            }
        }
        for (String text : new String[] {"'\\00'", "'\\012'", "'\\x41'", "'\\n\\n'", "'\\na'", "L'\\n'", "'a\\n'"}) {
            isNone(text);
        }
    }

    private static void nesting() {
        for (int n = 60; n <= 61; n++) {
            String[] nested = {"(".repeat(n) + "1" + ")".repeat(n), "- ".repeat(n) + "1", "!".repeat(n) + "1", "1?1:".repeat(n) + "1", "1?".repeat(n) + "1" + ":1".repeat(n),
                "(1+".repeat(n) + "1" + ")".repeat(n), "(~".repeat(30) + (n == 60 ? "" : "-") + "1" + ")".repeat(30), "1?(1?".repeat(20) + (n == 60 ? "" : "- ") + "1" + ":1):1".repeat(20), "0?1:(".repeat(30) + (n == 60 ? "1" : "!1") + ")".repeat(30), "1 || " + "(".repeat(n) + "1" + ")".repeat(n), "0&&" + "-+".repeat(n / 2) + (n == 60 ? "1" : "!1")};
            for (String condition : nested) {
                if (n == 60) {
                    Bench.fine(2, "#if " + condition + "\n#endif");
                } else {
                    isNone(condition);
                }
            }
        }
        // Side by side they are not in one another.
        holds("-(1)+".repeat(100) + "101");
        holds("(1?2:3)+".repeat(100) + "101");
        holds("!!".repeat(30) + "1 == " + "(".repeat(60) + "1" + ")".repeat(60));
    }

    private static String literal(long value) {
        return value == Long.MIN_VALUE ? "(-9223372036854775807-1)" : value < 0 ? "(" + value + ")" : Long.toString(value);
    }

    private static void shiftCounts() {
        for (int count : new int[] {0, 1, 31, 32, 62, 63, 64, 65, 127, 128, -1, -63, -64}) {
            String by = literal(count);
            holds("(3 << " + by + ") == " + literal(3L << count));
            holds("(-9 >> " + by + ") == " + literal(-9L >> count));
            holds("(-9u >> " + by + ") == " + Long.toUnsignedString(-9L >>> count) + "u");
            holds("(0x8000000000000001 >> " + by + ") == " + Long.toUnsignedString(0x8000000000000001L >>> count) + "u");
        }
        holds("(-1 >> 1u) < 0");
        holds("(1 << 63u) < 0");
        holds("(1u << 63) > 0");
        holds("(-1 >> 18446744073709551615u) == -1");
    }

    private static void leastValue() {
        String least = "(-9223372036854775807-1)";
        holds(least + " / -1 == " + least);
        holds(least + " % -1 == 0");
        holds(least + " * -1 == " + least);
        holds("-" + least + " == " + least);
        holds(least + " - 1 == 9223372036854775807");
        holds("~" + least + " == 9223372036854775807");
        holds("!" + least + " == 0");
        holds(least + " / -1u == 0");
        holds(least + " % -1u == 9223372036854775808u");
        holds("9223372036854775807 * 2 == -2");
        holds("0u - 1 == 18446744073709551615u");
        holds("18446744073709551615u / 18446744073709551614u == 1");
        holds("18446744073709551615u % 9223372036854775808u == 9223372036854775807");
        holds("18446744073709551615u / 3 == 6148914691236517205");
    }

    private static void kindsOfValues() {
        for (String text : new String[] {"-1 < 0", "(-1 < 0u) == 0", "(-1 <= 0u) == 0", "-1 > 0u", "-1 >= 0u", "-1 == 18446744073709551615u", "(1 == 1u) - 2 < 0", "(1u < 2u) - 2 < 0",
            "(1u && 1u) - 2 < 0", "(1u || 1u) - 2 < 0", "!1u - 2 < 0", "-1u > 0", "~0u > 0", "+1u - 2 > 0", "(1 ? -1 : 0u) > 0", "(0 ? 0u : -1) > 0", "(1u ? -1 : 0) < 0", "(1 | 0u) - 2 > 0",
            "(1 & 1u) - 2 > 0", "(1 ^ 0u) - 2 > 0", "(1 * 1u) - 2 > 0", "(1 / 1u) - 2 > 0", "(1 % 2u) - 2 > 0", "(1 + 0u) - 2 > 0", "'a' - 98 < 0", "x - 1 < 0", "1 ? 1 : 0 ? 0 : 0",
            "(0 ? 1 : 0 ? 1 : 2) == 2", "(1 ? 0 ? 1 : 2 : 3) == 2"}) {
            holds(text);
        }
    }

    private static void divisionsThatAreNeeded() {
        for (String text : new String[] {"1/0", "1%0", "0/0", "1/0u", "1u%0", "1/(1-1)", "0||1/0", "1&&1/0", "1?1/0:1", "0?1:1/0", "1/0?1:1", "1/0||1", "1/0&&0", "1/x",
            "0||0||1%0", "1||0?1/0:1"}) {
            fails("\n#if " + text + "\n#endif", 12, 2);
        }
        for (String text : new String[] {"1||1/0", "!(0&&1/0)", "1?1:1/0", "0?1/0:1", "1||0&&1/0||1%0", "0?1/0?1/0:1/0:1", "1?1:0?1/0:1%0", "1||(1?1/0:1)", "!(0&&(1||1/0)&&1/0)"}) {
            holds(text);
        }
    }

    private static void conditionsThatAreNone() {
        for (String text : new String[] {"1 :", "1 ? 2 : 3 :", "(1 :)", "1 ? (2 :) : 3", ": 1", "1 ? : 2", "1 ? 2", "1 ? 2 : ", "(1 ? 2) : 3", "1 ? (2 : 3)", "1 ?", "?", ":", "1 ? 2 ? 3 : 4", "1 )(", "1 ) + (2"}) {
            isNone(text);
        }
        for (String text : new String[] {"1/0 +", "(1/0", "1/0)", "1/0 1", "1/0 ? 1", "1/0 + 08", "1/0 + ''", "1/0 " + "- ".repeat(62) + "1"}) {
            isNone(text);
        }
    }

    private static void balance() {
        for (String word : new String[] {"elif 1", "elif", "elif (", "else", "endif"}) {
            fails("\n#" + word, 13, 2);
            fails("#if 1\n#endif\n#" + word, 13, 3);
        }
        for (String condition : new String[] {"0", "1"}) {
            fails("#if " + condition + "\n#else\n#else\n#endif", 13, 3);
            fails("#if " + condition + "\n#else\n#elif 1\n#endif", 13, 3);
            fails("#if " + condition + "\n#elif 1\n#else\n\n#elif 1/0\n#endif", 13, 5);
        }
        for (String word : new String[] {"else", "endif"}) {
            fails("#if 1\n#" + word + " x", 7, 2);
            fails("#if 0\n#" + word + " 1", 7, 2);
        }
        gives("#if 1\n#else // x\n#endif /* y */\nz", "z\n");
        Bench bench = new Bench().about("of the same file");
        bench.file("m", "#if 1\n#include \"b\"\n#endif");
        for (String word : new String[] {"else", "endif", "elif 1"}) {
            bench.file(word, "\n#" + word);
        }
        bench.file("b", "#endif");
        bench.dueError(bench.mill.run(0, 2, 1, 1), 13, 4, 1);
        bench.file("n", "#if 1\n#include \"else\"\n#endif");
        bench.dueError(bench.mill.run(5, 2, 1, 1), 13, 1, 2);
    }

    private static void endsOfFiles() {
        fails("#if 1", 14, 1);
        fails("\n#ifdef A\n#else\n", 14, 2);
        fails("#if 1\n#if 1\n#endif\n\n#ifndef A\n#else\nx", 14, 5);
        fails("#if 0\n#if 1\n#if 1\n#endif\n", 14, 2);
        fails("#if 1\n#elif 1\n#else\n", 14, 1);
        fails("\\\n #if 1\\\n\n", 14, 2);
        Bench bench = new Bench().about("a file that ends in one");
        bench.file("m", "#if 1\n#include \"b\"\n#endif");
        bench.file("b", "x\n#if 1\ny\n#if 0\n");
        bench.dueError(bench.mill.run(0, 2, 1, 1), 14, 1, 4);
        bench.due("told(3)", bench.mill.told(3), 2);
    }

    private static void partsThatDontCount() {
        String dead = "#foo\n#define\n#define 1\n#undef\n#error\n#include\n#include \"no\"\n#line\n# 1\nf(\n#define A\n'\n";
        gives("#define f(x) x\n#if 0\n" + dead + "#endif\n#ifdef A\nx\n#else\ny\n#endif", "y\n");
        gives("#if 1\n#else\n" + dead + "#endif\ny", "y\n");
        gives("#if 0\n#if (\n#else\n#else x\n#elif\n#endif x\n#ifdef\n#endif\n#ifndef 1 2\n#endif\n#endif\ny", "y\n");
        gives("#if 1\na\n#elif (\nb\n#elif 1/0\nc\n#elif defined\n#else\nd\n#endif", "a\n");
        gives("#if 0\n#elif 0\n#elif 2\na\n#elif 1/0\n#else\nb\n#endif", "a\n");
        gives("#if 0\n#elif 0\n#else\na\n#endif", "a\n");
        fails("#if 0\n#elif 0\n#elif 1/0\n#endif", 12, 3);
        fails("#if 0\n#elif\n#endif", 11, 2);
        gives("#if 0\n#if 1\n#else\nx\n#endif\n#elif 1\ny\n#endif", "y\n");
    }

    private static void lineNumbers() {
        for (String number : new String[] {"1", "9", "10", "000000001", "010", "08", "999999999"}) {
            gives("#line " + number + "\n__LINE__\n\n__LINE__", Integer.parseInt(number) + "\n" + (Integer.parseInt(number) + 2) + "\n");
        }
        for (String number : new String[] {"", "0", "00", "000000000", "0000000001", "1000000000", "-1", "+1", "1u", "0x1", "1.", "1e1", "x", "'1'", "\"1\"", "1 1", "1 x", "1 2 \"t\"", "(1)"}) {
            fails("\n#line " + number, 15, 2);
        }
        gives("#define N 7\n#line N\n__LINE__", "7\n");
        gives("\n\n#line __LINE__\n__LINE__", "3\n");
    }

    private static void lineTitles() {
        String longest = "t".repeat(64);
        gives("#line 1 \"" + longest + "\"\n__FILE__", "\"" + longest + "\"\n");
        fails("#line 1 \"" + longest + "t\"\n__FILE__", 15, 1);
        gives("#line 1 \"" + "\\\\".repeat(32) + "\"\n__FILE__", "\"" + "\\\\\\\\".repeat(32) + "\"\n");
        fails("#line 1 \"" + "\\\\".repeat(32) + "t\"\n__FILE__", 15, 1);
        gives("#line 1 \"\"\n__FILE__", "\"\"\n");
        for (String title : new String[] {"L\"t\"", "'t'", "t", "<t>", "\"t\" \"u\"", "\"t\" 1", "\"t"}) {
            fails("\n#line 1 " + title, 15, 2);
        }
        gives("#define T \"t\"\n#line 5 T\n__FILE__ __LINE__\n#line 9\n__FILE__ __LINE__", "\"t\" 5\n\"t\" 9\n");
    }

    private static void linesBehindLine() {
        gives("__LINE__\n#line 50\n__LINE__\n__LINE__\n#line 50\n__LINE__", "1\n50\n51\n50\n");
        gives("#line 50 \\\n\\\n\n__LINE__", "50\n");
        gives("#line 50 /*\n\n*/\n__LINE__", "50\n");
        gives("#line 50 // \\\n x\n\n__LINE__", "51\n");
        gives("#line 50", "");
        gives("a\n#line 50 \"t\"\n#line __LINE__\n__LINE__ __FILE__", "a\n50 \"t\"\n");
        gives("#line 50\n#if __LINE__ == 50\nx __LINE__\n#endif", "x 51\n");
        // Errors go by the files themselves.
        fails("#line 50 \"t\"\n\n#error", 16, 3);
        fails("#line 50 \"t\"\n#define f(x) x\n\nf(", 18, 4);
        fails("#line 50\n/*", 1, 2);
    }

    private static void lineInItsFileAlone() {
        Bench bench = new Bench().about("in this file");
        bench.file("m", "#line 50 \"M\"\n#include \"b\"\n__LINE__ __FILE__\n#include \"b\"\n__LINE__ __FILE__");
        bench.file("b", "__LINE__ __FILE__\n#line 90 \"B\"\n__LINE__ __FILE__\n");
        bench.due("run", bench.mill.run(0, 2, 1, 1), 0);
        bench.due("out", bench.out(), "1 \"b\"\n90 \"B\"\n51 \"M\"\n1 \"b\"\n90 \"B\"\n53 \"M\"\n");
        bench.due("run", bench.mill.run(1, 2, 1, 1), 0);
        bench.due("out", bench.out(), "1 \"b\"\n90 \"B\"\n");
    }

    private static void endsOfRows() {
        gives("#define f(x) <x>\nf\n#\n(1)", "f\n( 1 )\n");
        gives("#define f(x) <x>\nf\n\n(1) f", "< 1 > f\n");
        gives("#define f(x) <x>\nf\n#if 1\n(1)\n#endif", "f\n( 1 )\n");
        gives("#define f(x) <x>\nf", "f\n");
        Bench bench = new Bench().about("a row ends with its file");
        bench.file("m", "#define f(x) <x>\nf\n#include \"b\"\n(2)");
        bench.file("b", "(1) f");
        bench.due("run", bench.mill.run(0, 2, 1, 1), 0);
        bench.due("out", bench.out(), "f\n( 1 ) f\n( 2 )\n");
        gives("#define f(x) <x>\n#define g f\n#define h f (\ng(1) g f(f)(2) h 3)", "< 1 > f < f > ( 2 ) < 3 >\n");
    }

    private static void numberOfArguments() {
        String[] parameters = {"", "a", "a,b", "a,b,c"};
        for (int named = 0; named <= 3; named++) {
            for (int more = 0; more <= 1; more++) {
                for (int given = 0; given <= 5; given++) {
                    StringBuilder call = new StringBuilder();
                    for (int i = 0; i < given; i++) {
                        call.append(i > 0 ? "," : "").append(i);
                    }
                    String list = parameters[named] + (more == 0 ? "" : named == 0 ? "..." : ",...");
                    String text = "#define f(" + list + ") x\n\nf(" + call + ")";
                    int count = named + more;
                    boolean fine = given == count || given == 0 && count == 1 || more == 1 && given > count;
                    if (fine) {
                        gives(text, "x\n");
                    } else {
                        fails(text, 17, 3);
                    }
                }
            }
        }
        gives("#define f(a,...) [__VA_ARGS__]\nf(,) f(,,) f(1,(2,3),4)", "[ ] [ , ] [ ( 2 , 3 ) , 4 ]\n");
        fails("#define f(a,b) x\nf((1,2))", 17, 2);
        gives("#define f(a,b) x\nf((1,2),) f(,) f(\n,\n)", "x x x\n");
    }

    private static void argumentsWithoutEnd() {
        for (String text : new String[] {"f(", "f((", "f(1", "f(1,", "f((1)", "f(1,(2)", "f(\n\n", "f(f(1)", "f(1\n#\n)", "f(1\n#include \"no\"\n)"}) {
            fails("#define f(x) x\n\n" + text, 18, 3);
        }
        fails("#define f(x) x\nf\n(1", 18, 2);
        fails("#define f(x) x\nf(1) \n f(", 18, 3);
        fails("#define f(x) x\n#define L (\nf(f L\nf()", 18, 3);
        fails("#define f(x,y) x\nf(1,2,3", 18, 2);
    }

    private static void emptyArguments() {
        String macros = "#define s(x) #x\n#define j(x,y) x##y\n#define k(x) a##x##b\n#define e(x) [x]\n#define l(x) x ## 1\n#define r(x) 1 ## x\n";
        gives(macros + "s() j(,) k() e() l() r()", "\"\" ab [ ] 1 1\n");
        gives(macros + "j(a,) j(,b) s( ) e( )", "a b \"\" [ ]\n");
        gives("#define a A\n#define h(x) x ## ## a\nh()", "A\n");
        // A parameter behind ## that went is not replaced by itself, be it the first one or another one.
        gives("#define g(x) <x>\n#define L g (\n#define f(a,b) b ## a 1)\n#define e(a,b) a ## b 1)\nf(L,) e(,L)", "< 1 > < 1 >\n");
        fails("#define g(x) <x>\n#define L g (\n#define f(a) a 1)\nf(L)", 18, 4);
        gives("#define h(x) x ## ## a\n#define g(x,y,z) x ## y ## z\nh() g(,,c) g(,b,) g(a,,) g(,b,c) g(a,,c)", "a c b a bc ac\n");
    }

    private static void pastedTokens() {
        String j = "#define j(x,y) x##y\n";
        String[] fine = {"a,b", "a,1", "1,a", "1,2", "1,.", ".,1", "1e,+", "<,<", "<<,=", ">,>=", "-,>", "#,#", "&,&", "L,'a'", "L,\"a\"", "+,=", "1,.5", "|,|"};
        for (String pair : fine) {
            String[] sides = pair.split(",");
            gives(j + "j(" + pair + ")", sides[0] + sides[1] + "\n");
        }
        for (String pair : new String[] {"a,+", "+,a", "1,+", "/,/", "/,*", "*,/", "[,]", "a,\"b\"", "\"a\",\"b\"", "'a',b", "L,L'a'", "l,'a'", ".,.", "..,.", "<,>", "=,<", "$,a", "\\,n", "@,@", "#,a",
            "-,1", "a,.", "x,'"}) {
            fails(j + "\nj(" + pair + ")", 19, 3);
        }
    }

    /** A pasted token's set is what both sides have in common. */
    private static void setsOfPastedTokens() {
        gives("#define ab a\n#define j(x) x##b\n#define g(x) j(x)\ng(ab)", "a\n");
        gives("#define ab a\n#define ba a\n#define j(x,y) x##y\n#define b(x) j(x,b)\n#define g(x) j(x,x)\n#define aa +\nb(ab) g(ab) g(ba)", "a + +\n");
        gives("#define j(x,y) x##y\n#define AB j(A,B) AB\nAB", "AB AB\n");
        gives("#define A a ## B\n#define aB A aC\n#define aC A aB\nA", "A A aB\n");
    }

    private static void theOut() {
        Bench none = gives(" \n#define A\n#if 0\nx\n#endif\nA\nA A\n", "");
        none.due("size", none.mill.size(), 0);
        none.due("told(3)", none.mill.told(3), 0);
        gives("a", "a\n");
        gives("\n\n  a  b\n\n\n c\n\n", "a b\nc\n");
        gives("#define E\n#define f(x) x y\na\nE b\nE\nc\nf(d\ne)\nf(\ng)", "a b\nc\nd e y\ng y\n");
    }

    private static void filesAndLinesOfErrors() {
        Bench bench = new Bench().about("files and lines");
        bench.file("z", "");
        bench.file("m", "#define f(x) x\n\n#include \"b\"\n\n#include \"c\"\n\n#error");
        bench.file("b", "b\n");
        bench.file("c", "\n#include \"b\"\n\n\nf(\n");
        bench.dueError(bench.mill.run(1, 2, 1, 5), 18, 3, 5);
        bench.due("told(3)", bench.mill.told(3), 2);
        bench.file("n", "#include \"b\"\n\n#error");
        bench.dueError(bench.mill.run(4, 2, 1, 5), 16, 4, 3);
        bench.dueError(bench.mill.run(4, 2, 1, 0), 10, 4, 1);
        fails("\\\n\\\n#error", 16, 3);
        fails("/*\n*/ #\\\nerror", 16, 2);
        fails("#if 1 \\\n + 1/0\n", 12, 1);
        fails("#define f(x) x\n#if 1 + \\\n f(1,2)\n", 17, 3);
    }

    private static void leastNumber() {
        fails("#define defined(x,x) ##", 3, 1);
        fails("#define f(x,x) ## #", 4, 1);
        fails("#define f(x) x\n#define f(y) ##", 5, 2);
        fails("#define A 1\n#define A __VA_ARGS__ ##", 4, 2);
        fails("#undef 1 2", 3, 1);
        fails("#ifdef defined x", 3, 1);
        fails("#include \"no\" x", 7, 1);
        fails("#include \"no\"", 9, 1);
        fails("#include \"m\"", 10, 1);
        fails("#else x", 7, 1);
        fails("#endif x", 7, 1);
        fails("#if 1\n#else\n#else x", 7, 3);
        fails("#if 1/0 +", 11, 1);
        // A row's error comes before that of the directive behind it.
        fails("#define f(x) x\nf(\n#foo", 18, 2);
        fails("#define f(x) x\n#if 1\nf(\n", 18, 3);
    }
}
