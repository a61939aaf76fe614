/** The bounds of the first processor: errors 34 DEEP and 40 ROOM. */
public final class FirstLimitsTest {
    public static void main(String[] args) {
        openCalls();
        inputLeft();
        bytesOfCalls();
        numberOfArguments();
        numberOfMeanings();
        bytesOfMeanings();
        bytesOfDiversions();
        manyMeanings();
        Bench.finish("FirstLimitsTest");
    }

    private static String x(int count) {
        return "x".repeat(count);
    }

    private static void told(Bench bench, int taken) {
        bench.due("told(2)", bench.mill.told(2), taken);
    }

    private static void openCalls() {
        String f = "define(`f',`<$1>')define(`g',G)\n";
        for (String inner : new String[] {"1", "define", "dnl", "g", "len(1)"}) {
            boolean isCall = inner.equals("g") || inner.equals("dnl") || inner.startsWith("len");
            int most = isCall ? 49 : 50;
            String tail = inner.equals("dnl") ? "\n" : "";
            Bench fine = new Bench().about("open calls: " + inner);
            fine.file("m", f + "f(".repeat(most) + inner + tail + ")".repeat(most));
            fine.due("run", fine.mill.run(0, 1, 400000, 0), 0);
            Bench.fails(1, f + "f(".repeat(most + 1) + inner + tail + ")".repeat(most + 1), 34, 2);
        }
        told(Bench.fails(1, "define(`f',`')\n" + "f(".repeat(51), 34, 2), 15 + 100 + 1);
        told(Bench.fails(1, "define(`f',`')\n" + "f(".repeat(50) + "\nf", 34, 3), 15 + 101 + 1);
        // With no call open again all is as before.
        String one = "f(".repeat(50) + ")".repeat(50);
        Bench.gives(1, "define(`f',`')" + one + one, "");
    }

    private static void inputLeft() {
        Bench.gives(1, "define(`b',`$1$1$1$1$1$1$1$1')b(" + x(4096) + ")", x(32768));
        Bench.fails(1, "define(`b',`$1$1$1$1$1$1$1$1')\nb(" + x(4096) + ")z", 40, 2);
        Bench.fails(1, "define(`b',`$1$1$1$1$1$1$1$1')\nb(" + x(4097) + ")", 40, 2);
        Bench.fails(1, "define(`b',`" + "$*".repeat(8000) + "')\n\nb(" + x(9000) + ")", 40, 3);
        Bench.fails(1, "define(`b',`" + "$@".repeat(8000) + "')\n\nb(" + ",".repeat(8000) + ")", 40, 3);
    }

    private static void bytesOfCalls() {
        Bench.gives(1, "len(`" + x(16381) + "')", "16381");
        told(Bench.fails(1, "\nlen(`" + x(16382) + "')", 40, 2), 1 + 4 + 16384);
        Bench.gives(1, "define(`bbb',`y')len(`" + x(16378) + "'bbb)", "16379");
        Bench.fails(1, "define(`bbb',`y')len(`" + x(16379) + "'bbb)", 40, 1);
        Bench.gives(1, "len(`" + x(16375) + "'len(12))", "16376");
        Bench.fails(1, "len(`" + x(16375) + "'len(123456))", 40, 1);
        Bench.gives(1, "len(`" + x(16381) + "',)", "16381");
        Bench.fails(1, "len(`" + x(16381) + "',\n\na)", 40, 3);
    }

    private static void numberOfArguments() {
        String b = "define(`b',`$#')\n";
        Bench.gives(1, b + "b(" + ",".repeat(8191) + ")", "\n8192");
        told(Bench.fails(1, b + "b(" + ",".repeat(8192) + ")", 40, 2), 17 + 2 + 8192);
        Bench.gives(1, b + "b(" + ",".repeat(8190) + "b(1))", "\n8191");
        told(Bench.fails(1, b + "b(" + ",".repeat(8191) + "b(1))", 40, 2), 17 + 2 + 8191 + 2);
        Bench.gives(1, b + "b(" + ",".repeat(8191) + "b)", "\n8192");
    }

    private static String meanings(int count, String with) {
        StringBuilder text = new StringBuilder();
        for (int i = 0; i < count; i++) {
            text.append(with.replace("#", Integer.toString(i)));
        }
        return text.toString();
    }

    private static void numberOfMeanings() {
        String define = "define(`n#',`')";
        Bench.gives(1, meanings(300, define) + "z", "z");
        Bench.fails(1, meanings(300, define) + "\ndefine(`z',`')", 40, 2);
        Bench.gives(1, meanings(300, define) + "define(`n3',`q')n3", "q");
        Bench.fails(1, meanings(300, "pushdef(`n',`')") + "\npushdef(`n',`')", 40, 2);
        Bench.fails(1, meanings(300, define) + "define(`len',`')", 40, 1);
        Bench.gives(1, meanings(299, define) + "define(`len',`L')len", "L");
        Bench.gives(1, meanings(300, define) + "undefine(`n7')define(`z',`Z')z", "Z");
        Bench.gives(1, meanings(300, define) + "undefine(`len')popdef(`n9')pushdef(`z',`Z')z", "Z");
    }

    private static void bytesOfMeanings() {
        String a = "define(`a',`" + x(12000) + "')\n";
        Bench.gives(1, a + "define(`b',`" + x(4382) + "')", "\n");
        Bench.fails(1, a + "define(`b',`" + x(4383) + "')", 40, 2);
        Bench.gives(1, a + "define(`b',`" + x(4000) + "')define(`b',`" + x(4382) + "')", "\n");
        Bench.fails(1, a + "define(`b',`" + x(4000) + "')define(`b',`" + x(4383) + "')", 40, 2);
        Bench.fails(1, a + "define(`b',`" + x(4000) + "')pushdef(`b',`" + x(382) + "')", 40, 2);
        Bench.gives(1, a + "define(`b',`" + x(4000) + "')pushdef(`b',`" + x(381) + "')", "\n");
        Bench.gives(1, a + "undefine(`a')define(`b',`" + x(14000) + "')z", "\nz");
        Bench.gives(1, a + "define(`a',)define(`b',`" + x(14000) + "')z", "\nz");
    }

    private static void bytesOfDiversions() {
        Bench.gives(1, x(32768), x(32768));
        String a = "define(`a',`" + x(4096) + "')";
        String three = "a`'a`'a`'";
        Bench.gives(1, a + "divert(1)" + three + "divert(2)a`'a`'divert(-1)a a divert(0)" + three, x(32768));
        Bench.fails(1, a + "divert(1)" + three + "divert(2)a`'a`'\ndivert(-1)a a divert(0)" + three, 40, 2);
        Bench.gives(1, a + "divert(1)" + three + "divert(-1)undivert(1)divert(3)" + three + three + "a`'a`'", x(32768));
        Bench.fails(1, a + "divert(1)" + three + "divert(-1)undivert(1)divert(3)" + three + three + "a`'a`'z", 40, 1);
        Bench.gives(1, a + "divert(1)" + three + "divert(2)undivert(1)" + three + "a`'a`'", x(32768));
    }

    /** Texts come and go so often that their bytes must be gathered anew. */
    private static void manyMeanings() {
        String loop = "define(`loop',`ifelse($1,0,,`define(`q',`" + x(400)
                + "$1')define(`r$1',`<$1>')undefine(`r'incr($1))loop(decr($1))')')";
        Bench.gives(1, loop + "loop(250)q r1 r2", x(400) + "1 <1> r2");
        String push = "define(`loop',`ifelse($1,0,,`pushdef(`q',`" + x(40) + "$1')popdef(`q')pushdef(`p',`$1')loop(decr($1))')')";
        Bench.gives(1, push + "loop(200)p popdef(`p')p q", "1 2 q");
    }
}
