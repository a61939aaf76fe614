import java.lang.reflect.Array;
import java.lang.reflect.Field;
import java.lang.reflect.Modifier;
import java.util.IdentityHashMap;

/** Promises 7 to 12: what a run takes and what it tells. */
public final class TellingTest {
    private static final int BAD = MacroMill.BAD, NONE = MacroMill.NONE;

    public static void main(String[] args) {
        wrongRuns();
        stages();
        told();
        sizeAndWord();
        parameters();
        astray();
        runsBehindRuns();
        room();
        Bench.finish("TellingTest");
    }

    private static void wrongRuns() {
        Bench bench = new Bench().about("wrong runs");
        bench.file("m", "#define f(x) x\nf(a)");
        bench.due("run", bench.mill.run(0, 2, 1, 0), 0);
        int[][] wrong = {{-1, 1, 1, 0}, {1, 1, 1, 0}, {0, 0, 1, 0}, {0, 4, 1, 0}, {0, -1, 1, 0}, {0, 1, 0, 0}, {0, 2, 0, 0},
            {0, 1, 400001, 0}, {0, 1, -5, 0}, {0, 1, 1, -1}, {0, 1, 1, 21}, {0, Integer.MAX_VALUE, 1, 0},
            {Integer.MIN_VALUE, 1, 1, 1}};
        for (int[] call : wrong) {
            bench.due("run", bench.mill.run(call[0], call[1], call[2], call[3]), BAD);
        }
        bench.due("out", bench.out(), "a\n");
        bench.due("told(3)", bench.mill.told(3), 1);
        bench.due("told(4)", bench.mill.told(4), 1);
        bench.due("told(5)", bench.mill.told(5), 1);
        bench.due("parameters", bench.parameters("f"), 1);
        bench.due("the widest", bench.mill.run(0, 3, 400000, 20), 0);
    }

    private static void stages() {
        Bench bench = new Bench().about("stages");
        bench.file("m", "define(`M',`x')M M\n");
        bench.due("run 1", bench.mill.run(0, 1, 1000, 0), 0);
        bench.due("out 1", bench.out(), "x x\n");
        bench.due("told(3) 1", bench.mill.told(3), 0);
        bench.due("run 2", bench.mill.run(0, 2, 1, 0), 0);
        bench.due("out 2", bench.out(), "define ( ` M ',`x' ) M M\n");
        bench.due("told(2) 2", bench.mill.told(2), 0);
        bench.due("run 3", bench.mill.run(0, 3, 1000, 0), 0);
        bench.due("out 3", bench.out(), "x x\n");
        bench.due("told(3) 3", bench.mill.told(3), 2);

        bench = new Bench().about("the main file within itself");
        bench.file("m", "define(`y',`made')dnl\n`#'ifdef A\nagain y\n`#'else\n`#'define A\n`#'include \"m\"\ny\n`#'endif\n");
        bench.due("run 3", bench.mill.run(0, 3, 1000, 1), 0);
        bench.due("out 3", bench.out(), "again made\nmade\n");

        bench = new Bench().about("an error of each");
        bench.file("m", "a\n`#'error incr(1)\n");
        bench.due("run 3", bench.mill.run(0, 3, 1000, 0), 16);
        bench.due("told(1)", bench.mill.told(1), 2);
        bench.due("told(2)", bench.mill.told(2), 20);
        bench.due("told(3)", bench.mill.told(3), 1);
        bench.file("n", "\nincr(x)\n");
        bench.due("run 3", bench.mill.run(1, 3, 1000, 0), 36);
        bench.due("told(0)", bench.mill.told(0), 1);
        bench.due("told(1)", bench.mill.told(1), 2);
        bench.due("told(2)", bench.mill.told(2), 8);
        bench.due("told(3)", bench.mill.told(3), 0);
        bench.due("told(5)", bench.mill.told(5), 0);
    }

    private static void told() {
        Bench bench = new Bench().about("told");
        bench.file("m", "#define f(x) x x\n#define E\n\nf(a) E\n#include \"n\"\n");
        bench.file("n", "b\n\n f(\n");
        bench.due("run", bench.mill.run(0, 2, 1, 3), 18);
        int[] want = {1, 3, 0, 3, 2, 2};
        for (int what = 0; what <= 5; what++) {
            bench.due("told(" + what + ")", bench.mill.told(what), want[what]);
        }
        for (int what : new int[] {-1, 6, 7, 100, Integer.MIN_VALUE, Integer.MAX_VALUE}) {
            bench.due("told(" + what + ")", bench.mill.told(what), BAD);
        }
        bench.due("size", bench.mill.size(), 0);
        bench.due("run 1", bench.mill.run(1, 1, 100, 0), 0);
        int[] wantOfFirst = {0, 0, 7, 0, 0, 0};
        for (int what = 0; what <= 5; what++) {
            bench.due("told(" + what + ")", bench.mill.told(what), wantOfFirst[what]);
        }
    }

    private static void sizeAndWord() {
        Bench bench = new Bench().about("size and word");
        bench.file("m", "ABCDEFGH\u00ff\u0080x");
        bench.due("run", bench.mill.run(0, 1, 100, 0), 0);
        bench.due("size", bench.mill.size(), 11);
        bench.due("word(0)", bench.mill.word(0), 0x4847464544434241L);
        bench.due("word(1)", bench.mill.word(1), 0x7880FFL);
        for (int i : new int[] {2, 3, -1, Integer.MAX_VALUE, Integer.MIN_VALUE, 1 << 28, 1 << 29, 1 << 30, 8192}) {
            bench.due("word(" + i + ")", bench.mill.word(i), 0);
        }
        bench.file("n", "12345678\u00ff\u00ff\u00ff\u00ff\u00ff\u00ff\u00ff\u00ff");
        bench.due("run", bench.mill.run(1, 1, 100, 0), 0);
        bench.due("size", bench.mill.size(), 16);
        bench.due("word(1)", bench.mill.word(1), -1);
        bench.due("word(2)", bench.mill.word(2), 0);
    }

    private static void parameters() {
        Bench bench = new Bench().about("parameters");
        bench.file("m", "#define a 1\n#define b() 2\n#define c(x) 3\n#define d(x,y,...) 4\n#define e(...) 5\n#define g 1\n#undef g\n");
        bench.file("n", "#define a(p,q,r) 1\n#error\n#define b\n");
        bench.due("before any run", bench.parameters("a"), BAD);
        bench.due("run", bench.mill.run(0, 2, 1, 0), 0);
        String[] names = {"a", "b", "c", "d", "e", "g", "z", "", "__LINE__", "__FILE__", "defined", "a ", "aa", "A"};
        int[] want = {NONE, 0, 1, 3, 1, BAD, BAD, BAD, BAD, BAD, BAD, BAD, BAD, BAD};
        for (int i = 0; i < names.length; i++) {
            bench.due("parameters " + names[i], bench.parameters(names[i]), want[i]);
        }
        bench.due("told(5)", bench.mill.told(5), 5);
        bench.due("run with an error", bench.mill.run(1, 2, 1, 0), 16);
        bench.due("parameters a", bench.parameters("a"), 3);
        bench.due("parameters b", bench.parameters("b"), BAD);
        bench.due("run of stage 1", bench.mill.run(0, 1, 1000, 0), 0);
        bench.due("parameters a", bench.parameters("a"), BAD);
        bench.due("told(5)", bench.mill.told(5), 0);
    }

    private static void astray() {
        Bench bench = Bench.gives(2, "#define f(x) x f\n#define g f(g)\n#define E\nf(1)(2) g f f E (3) f\n(4)",
                "1 f ( 2 ) g f f f ( 3 ) 4 f\n");
        bench.due("astray", bench.mill.astray(), 0);
    }

    private static void runsBehindRuns() {
        Bench bench = new Bench().about("each run begins anew");
        bench.file("m", "#ifdef A\nthere\n#endif\n#define A 1\n#line 7 \"q\"\n__LINE__ __FILE__ A\n");
        bench.file("e", "#define A 2\n#if 1\n#if 1\n");
        for (int i = 0; i < 3; i++) {
            bench.due("run", bench.mill.run(0, 2, 1, 0), 0);
            bench.due("out", bench.out(), "7 \"q\" 1\n");
            bench.due("run", bench.mill.run(1, 2, 1, 0), 14);
            bench.due("told(1)", bench.mill.told(1), 3);
        }
        bench.file("f", "changequote([,])define([x],[1])divert(3)x define([len],[L])");
        for (int i = 0; i < 3; i++) {
            bench.due("run", bench.mill.run(2, 1, 1000, 0), 0);
            bench.due("out", bench.out(), "1 ");
            bench.due("told(2)", bench.mill.told(2), 60);
        }
    }

    /** All rows are made by the constructor, and runs make no others. */
    private static void room() {
        Bench bench = new Bench().about("room");
        long[] atFirst = measured(bench.mill);
        bench.file("m", "define(`f',`$1$1')f(f(f(a b)))\n`#'define g(x) x x\ng(g(g(1)))\n`#'if g(1) > 0\n`#'endif\n");
        bench.mill.run(0, 3, 400000, 3);
        long[] inTheEnd = measured(bench.mill);
        bench.due("objects", inTheEnd[0], atFirst[0]);
        bench.due("fields and elements", inTheEnd[1], atFirst[1]);
        bench.due("few objects", atFirst[0] < 200 ? 1 : 0, 1);
        bench.due("less than a million elements", atFirst[1] < 1000000 ? 1 : 0, 1);
    }

    private static long[] measured(Object root) {
        IdentityHashMap<Object, Object> seen = new IdentityHashMap<>();
        long[] sums = new long[2];
        measure(root, seen, sums);
        return sums;
    }

    private static void measure(Object object, IdentityHashMap<Object, Object> seen, long[] sums) {
        if (object == null || seen.put(object, object) != null) {
            return;
        }
        sums[0]++;
        if (object.getClass().isArray()) {
            sums[1] += Array.getLength(object);
            return;
        }
        for (Field field : object.getClass().getDeclaredFields()) {
            if (Modifier.isStatic(field.getModifiers())) {
                continue;
            }
            sums[1]++;
            if (!field.getType().isPrimitive()) {
                field.setAccessible(true);
                try {
                    measure(field.get(object), seen, sums);
                } catch (IllegalAccessException e) {
                    throw new IllegalStateException(e);
                }
            }
        }
    }
}
