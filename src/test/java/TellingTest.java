import java.lang.reflect.Array;
import java.lang.reflect.Field;
import java.lang.reflect.Modifier;
import java.util.IdentityHashMap;

/** Promises 7 to 12: what a run takes and what it tells. */
public final class TellingTest {
    private static final int BAD = MacroMill.BAD, NONE = MacroMill.NONE;
    private static final int LEAST = Integer.MIN_VALUE, MOST = Integer.MAX_VALUE;

    public static void main(String[] args) {
        exampleOfTheReadme();
        wrongRuns();
        wrongRunsChangeNothing();
        widestRuns();
        stages();
        mainFileWithinItself();
        errorOfEachStage();
        nothingToldBeforeARun();
        toldOfWhatIsNone();
        told();
        toldOfStageOne();
        toldAsFarAsItWent();
        sizes();
        words();
        wordsBesideTheOut();
        wordsOfALongOut();
        parameters();
        parametersOfLongNames();
        parametersBeforeAndBehindRuns();
        parametersBehindAnError();
        astray();
        runsBehindRuns();
        outBehindAnError();
        room();
        Bench.finish("TellingTest");
    }

    /** As README.md has it. */
    private static void exampleOfTheReadme() {
        Bench bench = new Bench().about("the README's example");
        bench.mill.feed(0x6D2E6323, 0x64656669, 0x6E652061, 0x20622062, 0x0A612031);
        bench.mill.feed(0x0A000000, 0, 0, 0, 0);
        bench.due("end", bench.mill.end(1), 21);
        bench.due("file", bench.mill.file(3), 0);
        bench.due("run", bench.mill.run(0, 2, 1000, 5), 0);
        bench.due("size", bench.mill.size(), 6);
        bench.due("word", bench.mill.word(0), 0x0A3120622062L);
    }

    private static final int[][] WRONG = {{-1, 1, 1, 0}, {1, 1, 1, 0}, {0, 0, 1, 0}, {0, 4, 1, 0}, {0, -1, 1, 0}, {0, 1, 0, 0}, {0, 2, 0, 0}, {0, 3, 0, 0},
        {0, 1, 400001, 0}, {0, 2, 400001, 0}, {0, 1, -5, 0}, {0, 1, 1, -1}, {0, 2, 1, -1}, {0, 1, 1, 21}, {0, 2, 1, 21}, {0, MOST, 1, 0}, {0, LEAST, 1, 0},
        {LEAST, 1, 1, 1}, {MOST, 1, 1, 1}, {0, 1, MOST, 0}, {0, 1, LEAST, 0}, {0, 1, 1, MOST}, {0, 1, 1, LEAST}, {32, 1, 1, 1}};

    private static void wrongRuns() {
        Bench bench = new Bench().about("wrong runs");
        bench.due("no file at all", bench.mill.run(0, 2, 1, 0), BAD);
        bench.file("m", "a");
        for (int[] call : WRONG) {
            bench.due("run", bench.mill.run(call[0], call[1], call[2], call[3]), BAD);
        }
        bench.due("nothing was run", bench.mill.size(), 0);
        bench.file("n", "b");
        bench.due("the last file", bench.mill.run(1, 1, 1, 0), 0);
        bench.due("out", bench.out(), "b");
        bench.due("the file behind it", bench.mill.run(2, 1, 1, 0), BAD);
        bench.mill.clear();
        bench.due("behind clear", bench.mill.run(0, 1, 1, 0), BAD);
    }

    private static void wrongRunsChangeNothing() {
        Bench bench = new Bench().about("wrong runs change nothing");
        bench.file("m", "#define f(x) x\n#define g\nf(a) b");
        bench.file("e", "\n\n#define h\nz\n#error");
        bench.due("run", bench.mill.run(0, 2, 1, 0), 0);
        for (int[] call : WRONG) {
            if (call[0] == 1) {
                continue;
            }
            bench.due("run", bench.mill.run(call[0], call[1], call[2], call[3]), BAD);
            bench.due("out", bench.out(), "a b\n");
            int[] want = {0, 0, 0, 2, 1, 2};
            for (int what = 0; what <= 5; what++) {
                bench.due("told(" + what + ")", bench.mill.told(what), want[what]);
            }
        }
        bench.due("parameters", bench.parameters("f"), 1);
        bench.due("run", bench.mill.run(1, 2, 1, 0), 16);
        bench.due("run", bench.mill.run(0, 2, 0, 0), BAD);
        int[] want = {1, 5, 0, 1, 0, 1};
        for (int what = 0; what <= 5; what++) {
            bench.due("told(" + what + ")", bench.mill.told(what), want[what]);
        }
        bench.due("parameters", bench.parameters("f"), BAD);
        bench.due("parameters", bench.parameters("h"), NONE);
    }

    private static void widestRuns() {
        Bench bench = new Bench().about("the widest and the narrowest");
        bench.file("m", "a");
        for (int stages = 1; stages <= 3; stages++) {
            for (int fuel : new int[] {1, 2, 399999, 400000}) {
                for (int depth : new int[] {0, 1, 19, 20}) {
                    bench.due("run", bench.mill.run(0, stages, fuel, depth), 0);
                    bench.due("size", bench.mill.size(), stages == 1 ? 1 : 2);
                }
            }
        }
        bench.file("n", "ab");
        bench.due("fuel 1", bench.mill.run(1, 1, 1, 0), 31);
        bench.due("fuel 2", bench.mill.run(1, 1, 2, 0), 0);
    }

    private static void stages() {
        Bench bench = new Bench().about("stages");
        bench.file("m", "define(`M',`x')M M\n");
        bench.due("run 1", bench.mill.run(0, 1, 1000, 0), 0);
        bench.due("out 1", bench.out(), "x x\n");
        bench.due("told(3) 1", bench.mill.told(3), 0);
        bench.due("run 2", bench.mill.run(0, 2, 1, 0), 0);
        bench.due("out 2", bench.out(), "define ( ` M ',`x' ) M M\n");
        bench.due("told(2) 2", bench.mill.told(2), 0);
        bench.due("run 3", bench.mill.run(0, 3, 1000, 0), 0);
        bench.due("out 3", bench.out(), "x x\n");
        bench.due("told(3) 3", bench.mill.told(3), 2);
        bench = new Bench().about("an empty file");
        bench.file("m", "");
        for (int i = 1; i <= 3; i++) {
            bench.due("run", bench.mill.run(0, i, 1, 0), 0);
            bench.due("size", bench.mill.size(), 0);
            bench.due("word", bench.mill.word(0), 0);
            bench.due("told(2)", bench.mill.told(2), 0);
        }
    }

    private static void mainFileWithinItself() {
        Bench bench = new Bench().about("the main file within itself");
        bench.file("m", "define(`y',`made')dnl\n`#'ifdef A\nagain y\n`#'else\n`#'define A\n`#'include \"m\"\ny\n`#'endif\n");
        bench.due("run 3", bench.mill.run(0, 3, 1000, 1), 0);
        bench.due("out 3", bench.out(), "again made\nmade\n");
        bench.file("n", "`#'include \"b\"\nlen(abc)");
        bench.file("b", "#ifndef B\n#define B\nlen(ab)\n#include \"n\"\n#endif");
        bench.due("other files as they are", bench.mill.run(1, 3, 1000, 3), 0);
        bench.due("out 3", bench.out(), "len ( ab )\n3\n3\n");
        bench.due("the file itself is as it was", bench.mill.run(1, 1, 1000, 0), 0);
        bench.due("out 1", bench.out(), "#include \"b\"\n3");
    }

    private static void errorOfEachStage() {
        Bench bench = new Bench().about("an error of each");
        bench.file("m", "a\n`#'error incr(1)\n");
        bench.dueError(bench.mill.run(0, 3, 1000, 0), 16, 0, 2);
        bench.due("told(2)", bench.mill.told(2), 20);
        bench.due("told(3)", bench.mill.told(3), 1);
        bench.file("n", "\nincr(x)\n");
        bench.dueError(bench.mill.run(1, 3, 1000, 0), 36, 1, 2);
        bench.due("told(2)", bench.mill.told(2), 8);
        bench.due("told(3)", bench.mill.told(3), 0);
        bench.due("told(5)", bench.mill.told(5), 0);
        // Lines of the second one's errors are those of what the first one made.
        bench.file("o", "dnl\ndnl\ndefine(`x',`\n\n\n')x`#'error");
        bench.dueError(bench.mill.run(2, 3, 1000, 0), 16, 2, 4);
    }

    private static void nothingToldBeforeARun() {
        Bench bench = new Bench().about("before any run");
        for (int round = 0; round < 2; round++) {
            for (int what = 0; what <= 5; what++) {
                bench.due("told(" + what + ")", bench.mill.told(what), 0);
            }
            bench.due("size", bench.mill.size(), 0);
            bench.due("astray", bench.mill.astray(), 0);
            bench.due("word", bench.mill.word(0), 0);
            bench.file("m", "#define a b\na");
            bench.due("run", bench.mill.run(0, 5, 1, 0), BAD);
        }
    }

    private static void toldOfWhatIsNone() {
        Bench bench = new Bench().about("told of what is none");
        for (int round = 0; round < 2; round++) {
            for (int what : new int[] {-1, 6, 7, 100, -100, LEAST, MOST}) {
                bench.due("told(" + what + ")", bench.mill.told(what), BAD);
            }
            bench.file("m", "a");
            bench.mill.run(0, 2, 1, 0);
        }
    }

    private static void told() {
        Bench bench = new Bench().about("told");
        bench.file("m", "#define f(x) x x\n#define E\n\nf(a) E\n#include \"n\"\n");
        bench.file("n", "b\n\n f(\n");
        bench.due("run", bench.mill.run(0, 2, 1, 3), 18);
        int[] want = {1, 3, 0, 3, 2, 2};
        for (int what = 0; what <= 5; what++) {
            bench.due("told(" + what + ")", bench.mill.told(what), want[what]);
        }
        bench.due("size", bench.mill.size(), 0);
        bench.file("o", "`#'define A B len(x)\nA\n`#'define C\n`#'undef A");
        bench.due("run 3", bench.mill.run(2, 3, 1000, 3), 0);
        int[] wantOfBoth = {0, 0, 46, 2, 2, 1};
        for (int what = 0; what <= 5; what++) {
            bench.due("told(" + what + ")", bench.mill.told(what), wantOfBoth[what]);
        }
    }

    private static void toldOfStageOne() {
        Bench bench = new Bench().about("told of stage 1");
        bench.file("m", "#define f(x) x\nf(a)\n/*");
        bench.due("run 2", bench.mill.run(0, 2, 1, 3), 1);
        bench.due("told(5)", bench.mill.told(5), 1);
        bench.due("run 1", bench.mill.run(0, 1, 100, 0), 0);
        int[] want = {0, 0, 22, 0, 0, 0};
        for (int what = 0; what <= 5; what++) {
            bench.due("told(" + what + ")", bench.mill.told(what), want[what]);
        }
        bench.due("run 1", bench.mill.run(0, 1, 21, 0), 31);
        int[] wantOfError = {0, 3, 21, 0, 0, 0};
        for (int what = 0; what <= 5; what++) {
            bench.due("told(" + what + ")", bench.mill.told(what), wantOfError[what]);
        }
    }

    private static void toldAsFarAsItWent() {
        String macros = "#define A 1 2 3\n#define f(x) x x\n#define j(x,y) x##y\n#define g(x) A j(x,+) A\n";
        String[] texts = {"a f(b) f(", "f(A) j(+,a)", "A A\n#error", "A A f(1,2)", "g(1)", "f(g(1))", "f(A f(", "A\n#include \"no\"", "#undef A\nA f(A)\n#undef f\n#if"};
        int[] errors = {18, 19, 16, 17, 19, 19, 18, 9, 11};
        // Of g(1) come A j ( 1 , + ) A, then 1 2 3 of A, then the 1 that + is pasted to: 12 tokens.
        int[][] told = {{3, 2, 4}, {6, 13, 4}, {6, 6, 4}, {6, 6, 4}, {3, 12, 4}, {0, 12, 4}, {0, 0, 4}, {3, 3, 4}, {3, 2, 2}};
        for (int i = 0; i < texts.length; i++) {
            Bench bench = new Bench().about(texts[i]);
            bench.file("m", macros + texts[i]);
            bench.due("run", bench.mill.run(0, 2, 1, 0), errors[i]);
            bench.due("size", bench.mill.size(), 0);
            for (int k = 0; k < 3; k++) {
                bench.due("told(" + (3 + k) + ")", bench.mill.told(3 + k), told[i][k]);
            }
        }
    }

    private static void sizes() {
        Bench bench = new Bench().about("sizes");
        bench.due("before any run", bench.mill.size(), 0);
        for (int length = 0; length <= 17; length++) {
            bench.mill.clear();
            bench.file("m", "x".repeat(length));
            bench.due("run 1", bench.mill.run(0, 1, 100, 0), 0);
            bench.due("size", bench.mill.size(), length);
            bench.due("run 2", bench.mill.run(0, 2, 100, 0), 0);
            bench.due("size", bench.mill.size(), length == 0 ? 0 : length + 1);
        }
        bench.file("e", "a\n#error");
        bench.due("run", bench.mill.run(1, 2, 1, 0), 16);
        bench.due("of an error", bench.mill.size(), 0);
    }

    private static void words() {
        Bench bench = new Bench().about("words");
        bench.file("m", "ABCDEFGH\u00ff\u0080x");
        bench.due("run", bench.mill.run(0, 1, 100, 0), 0);
        bench.due("size", bench.mill.size(), 11);
        bench.due("word(0)", bench.mill.word(0), 0x4847464544434241L);
        bench.due("word(1)", bench.mill.word(1), 0x7880FFL);
        bench.file("n", "12345678\u00ff\u00ff\u00ff\u00ff\u00ff\u00ff\u00ff\u00ff");
        bench.due("run", bench.mill.run(1, 1, 100, 0), 0);
        bench.due("size", bench.mill.size(), 16);
        bench.due("word(1)", bench.mill.word(1), -1);
        bench.due("word(2)", bench.mill.word(2), 0);
        for (int length = 0; length <= 9; length++) {
            bench.mill.clear();
            bench.file("m", "\u00fe".repeat(length));
            bench.due("run", bench.mill.run(0, 1, 100, 0), 0);
            bench.due("word(0)", bench.mill.word(0), length >= 8 ? 0xfefefefefefefefeL : 0xfefefefefefefefeL & (1L << 8 * length) - 1);
            bench.due("word(1)", bench.mill.word(1), length == 9 ? 0xfe : 0);
        }
    }

    private static void wordsBesideTheOut() {
        Bench bench = new Bench().about("words beside the out");
        for (int round = 0; round < 2; round++) {
            for (int i : new int[] {-1, -2, 2, 3, 4, 8191, 8192, 8193, 1 << 28, 1 << 29, 1 << 30, (1 << 29) + 1, -(1 << 29), -(1 << 29) + 1, LEAST, LEAST + 1, MOST, MOST - 1}) {
                bench.due("word(" + i + ")", bench.mill.word(i), 0);
            }
            bench.file("m", "a2345678b2345678");
            bench.mill.run(0, 1, 100, 0);
        }
        bench.due("word(1)", bench.mill.word(1), 0x3837363534333262L);
        // Behind a shorter out nothing of the longer one is left.
        bench.file("n", "x");
        bench.mill.run(1, 1, 100, 0);
        bench.due("word(0)", bench.mill.word(0), 0x78);
        bench.due("word(1)", bench.mill.word(1), 0);
    }

    private static void wordsOfALongOut() {
        Bench bench = Bench.gives(1, "define(`k',`" + "x".repeat(256) + "')" + "k`'".repeat(127) + "abcdefgh" + "y".repeat(247) + "z", "x".repeat(32512) + "abcdefgh" + "y".repeat(247) + "z");
        bench.due("size", bench.mill.size(), 32768);
        bench.due("word(4064)", bench.mill.word(4064), 0x6867666564636261L);
        bench.due("word(4095)", bench.mill.word(4095), 0x7a79797979797979L);
        bench.due("word(4096)", bench.mill.word(4096), 0);
    }

    private static void parameters() {
        Bench bench = new Bench().about("parameters");
        bench.file("m", "#define a 1\n#define b() 2\n#define c(x) 3\n#define d(x,y,...) 4\n#define e(...) 5\n#define g 1\n#undef g\n");
        bench.due("run", bench.mill.run(0, 2, 1, 0), 0);
        String[] names = {"a", "b", "c", "d", "e", "g", "z", "", "__LINE__", "__FILE__", "__VA_ARGS__", "defined", "a ", " a", "aa", "A", "x", "...", "1"};
        int[] want = {NONE, 0, 1, 3, 1, BAD, BAD, BAD, BAD, BAD, BAD, BAD, BAD, BAD, BAD, BAD, BAD, BAD, BAD};
        for (int i = 0; i < names.length; i++) {
            bench.due("parameters " + names[i], bench.parameters(names[i]), want[i]);
            bench.due("the tape is used up", bench.mill.parameters(), BAD);
        }
        bench.due("told(5)", bench.mill.told(5), 5);
    }

    private static void parametersOfLongNames() {
        String name = "n".repeat(3000);
        Bench bench = new Bench().about("long names");
        bench.file("m", "#define " + name + "(x) x\n#define " + name.substring(1) + "\n");
        bench.due("run", bench.mill.run(0, 2, 1, 0), 0);
        bench.due("parameters", bench.parameters(name.substring(2)), BAD);
        Bench other = new Bench().about("long names");
        other.file("m", "#define " + name + "(x) x\n");
        other.due("run", other.mill.run(0, 2, 1, 0), 0);
        other.due("parameters", other.parameters(name), 1);
    }

    private static void parametersBeforeAndBehindRuns() {
        Bench bench = new Bench().about("parameters and runs");
        bench.file("m", "#define a(x)\n");
        bench.due("before any run", bench.parameters("a"), BAD);
        bench.due("run", bench.mill.run(0, 2, 1, 0), 0);
        bench.due("behind stage 2", bench.parameters("a"), 1);
        bench.due("run", bench.mill.run(0, 4, 1, 0), BAD);
        bench.due("behind a BAD run", bench.parameters("a"), 1);
        bench.due("run", bench.mill.run(0, 1, 1000, 0), 0);
        bench.due("behind stage 1", bench.parameters("a"), BAD);
        bench.due("told(5)", bench.mill.told(5), 0);
        bench.file("n", "`#'define a(x,y)\n");
        bench.due("run", bench.mill.run(1, 3, 1000, 0), 0);
        bench.due("behind stage 3", bench.parameters("a"), 2);
        bench.due("run", bench.mill.run(1, 3, 3, 0), 31);
        bench.due("behind an error of the first processor", bench.parameters("a"), BAD);
    }

    private static void parametersBehindAnError() {
        Bench bench = new Bench().about("parameters behind an error");
        bench.file("n", "#define a(p,q,r) 1\n#define b\n#undef b\n#error\n#define c\n");
        bench.due("run", bench.mill.run(0, 2, 1, 0), 16);
        bench.due("parameters a", bench.parameters("a"), 3);
        bench.due("parameters b", bench.parameters("b"), BAD);
        bench.due("parameters c", bench.parameters("c"), BAD);
        bench.due("told(5)", bench.mill.told(5), 1);
    }

    private static void astray() {
        Bench bench = Bench.gives(2, "#define f(x) x f\n#define g f(g)\n#define E\nf(1)(2) g f f E (3) f\n(4)",
                "1 f ( 2 ) g f f f ( 3 ) 4 f\n");
        bench.due("astray", bench.mill.astray(), 0);
        bench = new Bench().about("astray");
        bench.due("before any run", bench.mill.astray(), 0);
        bench.file("m", "#define f(x) x\n#define h f\nh h(1) f\n#\n(1) h");
        for (int stages = 1; stages <= 3; stages++) {
            bench.due("run", bench.mill.run(0, stages, 1000, 0), 0);
            bench.due("astray", bench.mill.astray(), 0);
        }
    }

    private static void runsBehindRuns() {
        Bench bench = new Bench().about("each run begins anew");
        bench.file("m", "#ifdef A\nthere\n#endif\n#define A 1\n#line 7 \"q\"\n__LINE__ __FILE__ A\n");
        bench.file("e", "#define A 2\n#if 1\n#if 1\n");
        for (int i = 0; i < 3; i++) {
            bench.due("run", bench.mill.run(0, 2, 1, 0), 0);
            bench.due("out", bench.out(), "7 \"q\" 1\n");
            bench.due("run", bench.mill.run(1, 2, 1, 0), 14);
            bench.due("told(1)", bench.mill.told(1), 3);
        }
        bench.file("f", "changequote([,])define([x],[1])divert(3)x define([len],[L])");
        for (int i = 0; i < 3; i++) {
            bench.due("run", bench.mill.run(2, 1, 1000, 0), 0);
            bench.due("out", bench.out(), "1 ");
            bench.due("told(2)", bench.mill.told(2), 60);
        }
    }

    private static void outBehindAnError() {
        Bench bench = new Bench().about("the out of an error is empty");
        bench.file("m", "much that came out before\n");
        bench.file("e", "much that came out before\n#error");
        bench.file("q", "much that came out before\n`");
        for (int i = 0; i < 2; i++) {
            bench.due("run", bench.mill.run(0, 2, 1, 0), 0);
            bench.due("size", bench.mill.size(), 26);
            bench.dueError(bench.mill.run(1, 2, 1, 0), 16, 1, 2);
            bench.due("word(1)", bench.mill.word(1), 0);
            bench.dueError(bench.mill.run(2, 1, 100, 0), 32, 2, 2);
            bench.due("word(1)", bench.mill.word(1), 0);
        }
    }

    /** All rows are made by the constructor, and runs make no others. */
    private static void room() {
        Bench bench = new Bench().about("room");
        long[] atFirst = measured(bench.mill.itself());
        bench.file("m", "define(`f',`$1$1')f(f(f(a b)))\n`#'define g(x) x x\ng(g(g(1)))\n`#'if g(1) > 0\n`#'endif\n");
        bench.mill.run(0, 3, 400000, 3);
        long[] inTheEnd = measured(bench.mill.itself());
        bench.due("objects", inTheEnd[0], atFirst[0]);
        bench.due("fields and elements", inTheEnd[1], atFirst[1]);
        bench.due("few objects", atFirst[0] < 200 ? 1 : 0, 1);
        bench.due("less than a million elements", atFirst[1] < 1000000 ? 1 : 0, 1);
    }

    private static long[] measured(Object root) {
        IdentityHashMap<Object, Object> seen = new IdentityHashMap<>();
        long[] sums = new long[2];
        measure(root, seen, sums);
        return sums;
    }

    private static void measure(Object object, IdentityHashMap<Object, Object> seen, long[] sums) {
        if (object == null || seen.put(object, object) != null) {
            return;
        }
        sums[0]++;
        if (object.getClass().isArray()) {
            sums[1] += Array.getLength(object);
            return;
        }
        for (Field field : object.getClass().getDeclaredFields()) {
            if (Modifier.isStatic(field.getModifiers())) {
                continue;
            }
            sums[1]++;
            if (!field.getType().isPrimitive()) {
                field.setAccessible(true);
                try {
                    measure(field.get(object), seen, sums);
                } catch (IllegalAccessException e) {
                    throw new IllegalStateException(e);
                }
            }
        }
    }
}
