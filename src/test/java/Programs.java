import java.util.Random;

/** Programs by chance, the same ones for the same seed: many of them run without an error, the others meet most of them. */
final class Programs {
    private static final String[] PARAMETERS = {"x", "y", "z"};
    private static final String[] OPERATORS = {"||", "&&", "|", "^", "&", "==", "!=", "<", ">", "<=", ">=", "<<", ">>", "+", "-", "*", "/", "%"};
    private final Random random;

    Programs(long seed) {
        random = new Random(seed);
    }

    int below(int n) {
        return random.nextInt(n);
    }

    boolean rarely() {
        return below(12) == 0;
    }

    String pick(String... texts) {
        return texts[below(texts.length)];
    }

    // The second processor.

    /** Any bytes that matter to lines and tokens. */
    String bytes() {
        StringBuilder text = new StringBuilder();
        for (int i = below(60); i > 0; i--) {
            text.append(pick("\"", "'", "\\", "\n", "/", "*", "L", "a", "1", ".", " ", "#", "\\\n", "//", "/*", "*/", "e+", "x", "<",
                    "=", "-", ">", "\n#define a ", "__LINE__", "\t", "\r", "\u0080", "$", "@", "`", "\0", "|", "&", "0x", "...", "\f"));
        }
        return text.toString();
    }

    /** Definitions, and calls of what was defined. */
    String calls() {
        StringBuilder text = new StringBuilder();
        text.append("#define f(x) ").append(body(1, false)).append("\n#define g(x,y) ").append(body(2, false)).append('\n');
        text.append("#define h(").append(pick("...", "x,...", "x, y, ...")).append(") ").append(body(0, true)).append('\n');
        text.append("#define a ").append(body(0, false)).append("\n#define b ").append(body(0, false)).append('\n');
        text.append("#define c ").append(pick("f", "g", "h", "a", "f(", "c c", "b c")).append("\n#define E\n#define k() a k\n");
        for (int i = 2 + below(8); i > 0; i--) {
            text.append(call(below(4), 0)).append(pick(" ", "\n", " ;", "\n#undef a\n", "\n#line 70\n"));
        }
        return text.toString();
    }

    private String body(int parameters, boolean more) {
        StringBuilder text = new StringBuilder();
        for (int i = below(8); i > 0; i--) {
            int kind = below(12);
            if (kind < 4 && parameters > 0) {
                text.append(PARAMETERS[below(parameters)]);
            } else if (kind == 4 && parameters > 0) {
                text.append(pick("#", "# ")).append(PARAMETERS[below(parameters)]);
            } else if (kind == 5 && parameters > 0) {
                text.append(PARAMETERS[below(parameters)]).append(pick("##", " ## ")).append(PARAMETERS[below(parameters)]);
                text.append(pick("", "", " ## " + PARAMETERS[below(parameters)], "##1"));
            } else if (kind < 7 && more) {
                text.append(pick("__VA_ARGS__", "#__VA_ARGS__", "__VA_ARGS__"));
            } else if (kind == 7) {
                text.append(pick("a##b", "f ## 1", "1##2", "+##+", "E ## E", "f ## f", "g##h"));
            } else if (kind == 8) {
                text.append(call(1, parameters).replace('\n', ' '));
            } else {
                text.append(pick("a", "b", "c", "f", "g", "h", "1", "(x)", "+", "__LINE__", "__FILE__", "E", "f E (1)", "\"b\\n\"", "'"));
            }
            text.append(' ');
        }
        return text.toString();
    }

    private String call(int depth, int parameters) {
        String first = operand(depth, parameters);
        String second = operand(depth, parameters);
        switch (below(6)) {
            case 0:
                return pick("f", "f ", "c") + "(" + first + ")";
            case 1:
                return "g(" + first + pick(",", ", ", ",\n") + second + ")";
            case 2:
                return "h(" + first + pick("", "," + second, ", " + second + " , 1") + ",)";
            case 3:
                return pick("a", "b", "k()", "k( )", "c");
            default:
                return pick("f", "f E", "f(g)", "f(f)", "E") + "(" + first + ")" + pick("", "(" + second + ")", "(1,2)");
        }
    }

    private String operand(int depth, int parameters) {
        if (depth > 0 && below(3) > 0) {
            return call(depth - 1, parameters);
        }
        if (parameters > 0 && below(2) == 0) {
            return PARAMETERS[below(parameters)];
        }
        return pick("1", "", "a", "f", "g", "h", "b", "( , )", "\"s\\\"\"", "a b", "__LINE__", " q ", "'\\''", rarely() ? ")" : "2");
    }

    /** Lines of directives and text, with errors here and there. */
    String directives() {
        StringBuilder text = new StringBuilder();
        int open = 0;
        for (int i = 1 + below(16); i > 0; i--) {
            int kind = below(6);
            if (kind == 0) {
                text.append(pick("#ifdef ", "#ifndef ")).append(pick("a", "b", "f", "E")).append('\n');
                open++;
            } else if (kind == 1) {
                text.append("#if ").append(condition(below(3))).append('\n');
                open++;
            } else if (kind == 2 && (open > 0 || rarely())) {
                text.append(pick("#else\n", "#endif\n", "#elif " + condition(1) + "\n"));
                open -= text.toString().endsWith("#endif\n") ? 1 : 0;
            } else if (kind < 5) {
                text.append(directive()).append('\n');
            } else {
                text.append(pick("a", "b f(1)", "f(a)(2) /*\n*/ b", "__LINE__ __FILE__", "c \\\n __LINE__", "E")).append('\n');
            }
        }
        for (int i = rarely() ? 1 : 0; i < open; i++) {
            text.append("#endif\n");
        }
        return text.toString();
    }

    private String directive() {
        switch (below(rarely() ? 5 : 4)) {
            case 0:
                return "#define " + pick("a 1", "a  1", "b a", "b", "f(x) x", "f(x) x x", "f(y) y", "E", "E \"b\"", "c <b>", "f (x)");
            case 1:
                return "#undef " + pick("a", "b", "f", "E", "nothing");
            case 2:
                return "#include " + pick("\"b\"", "<b>", "<c d>", "< c  d >", "<c/**/d>", "c", "E", rarely() ? "a" : "\"b\"");
            case 3:
                return pick("#line 5", "#line 100 \"t\\\"u\"", "#line __LINE__", "#line 00007", "#line 3 \"\"", "#", "#pragma x");
            default:
                return pick("#foo", "#error", "# 3", "#else x", "#endif 1", "#if", "#elif", "#define", "#define f(x,x)", "#define 1",
                        "#define a b ##", "#define f(x) # a", "#line 0", "#line", "#include", "#include \"b\" E", "#include <b", "#undef a b");
        }
    }

    String condition(int depth) {
        if (depth == 0) {
            return pick("0", "1", "2", "-1", "0u", "1u", "0x7fffffffffffffff", "0xffffffffffffffff", "18446744073709551615u",
                    "9223372036854775807", "07", "1l", "1LLu", "'a'", "'\\n'", "a", "defined a", "defined(b)", "defined ( c )",
                    "__LINE__", "63", "64", "(-9223372036854775807-1)", "~0u", "'\u00ff'",
                    rarely() ? pick("9223372036854775808", "08", "0x", "1lL", "'ab'", "L'a'", "defined", "1.0", "\"s\"", "02000000000000000000000") : "3");
        }
        String left = condition(depth - 1);
        String right = condition(depth - 1);
        switch (below(8)) {
            case 0:
                return "(" + left + ")";
            case 1:
                return pick("-", "+", "~", "!") + "(" + left + ")";
            case 2:
                return left + " ? " + right + " : " + condition(depth - 1);
            default:
                return left + " " + pick(OPERATORS) + " " + right;
        }
    }

    /** Conditions alone. */
    String conditions() {
        StringBuilder text = new StringBuilder("#define a 1\n#define b (a+2)\n");
        for (int i = 0; i < 5; i++) {
            text.append("#if ").append(condition(below(5))).append("\nyes\n#elif ").append(condition(below(4))).append("\nelif\n#else\nno\n#endif\n");
        }
        return text.toString();
    }

    // The first processor.

    String first() {
        StringBuilder text = new StringBuilder();
        for (int i = 1 + below(10); i > 0; i--) {
            text.append(below(4) > 0 ? work(3) : words(3)).append(pick("", " ", "\n"));
        }
        return text.toString();
    }

    private String words(int depth) {
        StringBuilder text = new StringBuilder();
        for (int i = below(4); i > 0; i--) {
            int kind = below(12);
            if (kind < 3 && depth > 0) {
                text.append(work(depth - 1));
            } else if (kind < 5 && depth > 0) {
                text.append('`').append(words(depth - 1)).append('\'');
            } else if (kind < 8) {
                text.append(pick("A", "B", "C", "D", "x", "12", " ", "\n", "(a,b)", "`'", "#c\n", "define", "eval"));
            } else if (kind < 11) {
                text.append(pick("$1", "$2", "$#", "$@", "$*", "$0", "$", "$9", "A($@)", "B(shift($@))"));
            } else {
                text.append(pick("[", "]", "<<", ">>", "dnl", "divert", "undivert", "changequote", ",", rarely() ? "(" : "x", rarely() ? "'" : "y"));
            }
        }
        return text.toString();
    }

    private String quoted(int depth) {
        return below(4) > 0 ? "`" + words(depth) + "'" : words(depth);
    }

    private String name() {
        return pick("`A'", "`B'", "`C'", "`D'", "`A'", "`B'", "`len'", "`dnl'", "x1", rarely() ? pick("", "`3x'", "`A B'") : "`E'");
    }

    private String number() {
        return pick("0", "1", "2", "3", "-1", "9", "", "007", "`-2'", "5", " 4", rarely() ? pick("x", "-", "1234567890", "4 ", "10") : "1");
    }

    private String expression(int depth) {
        if (depth == 0) {
            return pick("0", "1", "2", "7", "010", "999999999", "31", "33", "len(`abc')", "2147483", rarely() ? pick("", "A", "1234567890") : "5");
        }
        switch (below(6)) {
            case 0:
                return "(" + expression(depth - 1) + ")";
            case 1:
                return pick("-", "+", "~", "!", "- ") + expression(depth - 1);
            default:
                return expression(depth - 1) + pick("", " ", "\n") + pick(OPERATORS) + pick("", " ") + expression(depth - 1);
        }
    }

    private String work(int depth) {
        String more = pick("", "," + quoted(depth), "," + quoted(depth) + "," + quoted(depth));
        switch (below(16)) {
            case 0:
            case 1:
            case 2:
                return pick("define", "define", "pushdef") + "(" + name() + pick(",", ", ", ",\n") + quoted(depth) + ")" + pick("", "dnl\n");
            case 3:
                return pick("undefine", "popdef", "popdef") + "(" + name() + pick("", "," + name()) + ")";
            case 4:
                return "ifdef(" + name() + "," + quoted(depth) + more + ")";
            case 5:
                return "ifelse(" + pick("1", "A", "`A'", "") + "," + pick("1", "A", "") + more + more + pick("", ",2") + ")";
            case 6:
                return "eval(" + expression(below(4)) + ")";
            case 7:
                return pick("incr", "decr", "len") + "(" + number() + ")";
            case 8:
                return "index(" + pick("abcabc", quoted(depth)) + "," + pick("b", "ca", "", "z") + ")";
            case 9:
                return "substr(" + pick("abcdef", quoted(depth)) + pick("", "," + number(), "," + number() + "," + number()) + ")";
            case 10:
                return pick("shift", "len") + "(" + quoted(depth) + more + ")";
            case 11:
                return "divert" + pick("", "(" + below(5) + ")", "(-1)divert", "(" + number() + ")") + pick("", "dnl\n");
            case 12:
                return "undivert" + pick("", "()", "(" + number() + ")", "(1,2,3)", "(" + below(5) + "," + number() + ")");
            case 13:
                return rarely() ? "changequote" + pick("", "([,])", "(<<,>>)", "(|,|)", "()", "(<!,!>,x)", "(<,<<)", "(12345,])") : "";
            default:
                return pick("A", "B", "C", "D") + pick("", "()", "(" + quoted(depth) + more + ")", "( " + words(depth) + ",\n" + words(depth) + ")");
        }
    }

    /** Texts whose directives the first processor makes. */
    String both() {
        StringBuilder text = new StringBuilder("define(`M',``#'define $1 $2\n')");
        for (int i = 1 + below(6); i > 0; i--) {
            text.append(pick("`" + directives() + "'", first(), "M(a,`b a')", "M(`f(x)',`x b')\n", "f(a) b\n", "M(E)",
                    "`#'include \"" + (rarely() ? "m" : "b") + "\"\n"));
        }
        return text.toString();
    }
}
