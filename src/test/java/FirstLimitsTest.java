/** The bounds of the first processor: errors 31 FUEL, 34 DEEP and 40 ROOM, each with the last value that is taken. */
public final class FirstLimitsTest {
    public static void main(String[] args) {
        fuelOfEachByte();
        fuelThatIsJustEnough();
        mostFuel();
        openCalls();
        openCallsWithoutArguments();
        callsThatAreClosed();
        deepBeforeRoom();
        inputLeft();
        inputLeftOfGreatResults();
        bytesOfCalls();
        bytesOfInnerCalls();
        bytesOfClosedCalls();
        numberOfArguments();
        numberOfArgumentsOfInnerCalls();
        numberOfMeanings();
        numberOfMeaningsOfOneName();
        builtInMeaningsCountForNothing();
        meaningsThatAreGone();
        bytesOfMeanings();
        bytesOfMeaningsThatAreReplaced();
        bytesOfMeaningsThatAreGone();
        bytesOfDiversions();
        bytesOfNoDiversion();
        bytesThatAreUndiverted();
        nameBeforeRoom();
        manyMeanings();
        movedMeanings();
        meaningsBesideOneThatIsGone();
        meaningsOfTheRunBefore();
        manyNames();
        namesBehindOneAnother();
        behindAnError();
        roomBehindAnError();
        Bench.finish("FirstLimitsTest");
    }

    private static String x(int count) {
        return "x".repeat(count);
    }

    /** A macro k of 256 bytes, and calls of it that give, with what is behind them, so many bytes. */
    private static final String K = "define(`k',`" + x(256) + "')";

    private static String grown(int count) {
        return "k`'".repeat(count / 256) + x(count % 256);
    }

    private static void told(Bench bench, int taken) {
        bench.due("told(2)", bench.mill.told(2), taken);
    }

    private static void fuelOfEachByte() {
        String text = "define(`x',`a\nb$1')\nx(1,\n2)`q'\n#c\nx(dnl z\n3)";
        int[] lines = {1, 14, 20, 25, 35, 38, 46};
        for (int fuel = 1; fuel <= 55; fuel++) {
            Bench bench = new Bench().about("fuel " + fuel);
            bench.file("m", text);
            boolean enough = fuel >= 52;
            int line = 0;
            for (int from : lines) {
                line += fuel >= from ? 1 : 0;
            }
            bench.due("run", bench.mill.run(0, 1, fuel, 0), enough ? 0 : 31);
            bench.due("told(1)", bench.mill.told(1), enough ? 0 : line);
            bench.due("told(2)", bench.mill.told(2), enough ? 52 : fuel);
            bench.due("out", bench.out(), enough ? "\na\nb1q\n#c\na\nb3" : "");
        }
    }

    private static void fuelThatIsJustEnough() {
        String[] texts = {"a", "ab1", "#c", "#c\n", "`'", "`a'", "dnl", "dnl x", "dnl\n", "len()", "(", "\n", "changequote(<<,>>)<<a>>", "`a", "len(", "len"};
        int[] taken = {1, 3, 2, 3, 2, 3, 3, 5, 4, 6, 1, 1, 23, 2, 4, 3};
        for (int i = 0; i < texts.length; i++) {
            Bench bench = new Bench().about(texts[i]);
            bench.file("m", texts[i]);
            int error = texts[i].equals("`a") ? 32 : texts[i].equals("len(") ? 33 : 0;
            bench.due("just enough", bench.mill.run(0, 1, taken[i], 0), error);
            bench.due("told(2)", bench.mill.told(2), taken[i]);
            if (taken[i] > 1) {
                bench.dueError(bench.mill.run(0, 1, taken[i] - 1, 0), 31, 0, 1);
                bench.due("told(2)", bench.mill.told(2), taken[i] - 1);
            }
            bench.due("stage 2 takes none", bench.mill.run(0, 2, 1, 0), texts[i].startsWith("#") ? 2 : 0);
            bench.due("told(2)", bench.mill.told(2), 0);
        }
    }

    private static void mostFuel() {
        Bench endless = Bench.fails(1, "define(`a',`a')\na", 31, 2);
        told(endless, 400000);
        endless.due("stage 3, too", endless.mill.run(0, 3, 399999, 0), 31);
        told(endless, 399999);
    }

    private static void openCalls() {
        String f = "define(`f',`<$1>')define(`g',G)\n";
        for (String inner : new String[] {"1", "define", "dnl", "g", "len(1)", "`g'"}) {
            boolean isCall = inner.equals("g") || inner.equals("dnl") || inner.startsWith("len");
            int most = isCall ? 49 : 50;
            String tail = inner.equals("dnl") ? "\n" : "";
            Bench.fine(1, f + "f(".repeat(most) + inner + tail + ")".repeat(most));
            Bench.fails(1, f + "f(".repeat(most + 1) + inner + tail + ")".repeat(most + 1), 34, 2);
        }
        told(Bench.fails(1, "define(`f',`')\n" + "f(".repeat(51), 34, 2), 15 + 100 + 1);
    }

    private static void openCallsWithoutArguments() {
        String f = "define(`f',`')\n";
        told(Bench.fails(1, f + "f(".repeat(50) + "\nf", 34, 3), 15 + 101 + 1);
        told(Bench.fails(1, f + "f(".repeat(50) + "\ndnl", 34, 3), 15 + 101 + 3);
        told(Bench.fails(1, f + "f(".repeat(50) + "\n", 33, 3), 15 + 101);
        Bench.gives(1, f + "f(".repeat(49) + "f" + ")".repeat(49), "\n");
    }

    private static void callsThatAreClosed() {
        String one = "f(".repeat(50) + ")".repeat(50);
        Bench.gives(1, "define(`f',`')" + one + one + "f(f)" + one, "");
        // What a call gives is read when it is open no more.
        Bench.gives(1, "define(`f',`ifelse($1,0,end,`f(decr($1))')')f(200)", "end");
    }

    private static void deepBeforeRoom() {
        String f = K + "define(`f',`')define(`ff',`')\nf(" + grown(16334) + "`'";
        // 50 names and 16334 bytes are all that there is room for.
        Bench.fails(1, f + "f(".repeat(49) + ")".repeat(49), 33, 2);
        Bench.fails(1, f + "f(".repeat(49) + "f", 34, 2);
        Bench.fails(1, f + "f(".repeat(48) + "f)", 33, 2);
        Bench.fails(1, f + "f(".repeat(48) + "ff)", 40, 2);
    }

    private static void inputLeft() {
        String b = K + "define(`b',`$1$1$1$1$1$1$1$2')";
        Bench.gives(1, b + "b(" + grown(4096) + "," + grown(4096) + ")", x(32768));
        Bench.fails(1, b + "\nb(" + grown(4096) + "," + grown(4097) + ")", 40, 2);
        Bench.gives(1, b + "b(" + grown(4096) + "," + grown(4095) + ")z", x(32767) + "z");
        Bench.fails(1, b + "\nb(" + grown(4096) + "," + grown(4096) + ")z\n", 40, 2);
        Bench.fails(1, b + "\nb(" + grown(4096) + "," + grown(4095) + ")zz", 40, 2);
        // All of the call has been taken when there is no room for what it gives.
        int taken = K.length() + 30 + 1 + 2 + 16 * 259 + 1 + 16 * 259 + 1;
        told(Bench.fails(1, b + "\nb(" + grown(4096) + "," + grown(4096) + ")z", 40, 2), taken);
    }

    private static void inputLeftOfGreatResults() {
        Bench.fails(1, "define(`k',`" + x(1024) + "')define(`b',`" + "$*".repeat(4000) + "')\n\nb(" + "k`'".repeat(9) + ")", 40, 3);
        Bench.fails(1, "define(`b',`" + "$@".repeat(4000) + "')\n\nb(" + ",".repeat(1500) + ")", 40, 3);
        Bench.fails(1, K + "define(`b',`$0$0')define(`s',`shift(`$*',$@,$@,$@,$@)')\n\ns(" + grown(8000) + ")", 40, 3);
        // The first byte that is too much comes when there is just no room left.
        Bench.gives(1, K + "define(`b',`" + "$1".repeat(8) + "$2')b(" + grown(4096) + ",`')", x(32768));
        Bench.fails(1, K + "define(`b',`" + "$1".repeat(8) + "y')b(" + grown(4096) + ",`')", 40, 1);
        Bench.fails(1, K + "define(`b',`" + "$1".repeat(8) + "$#')b(" + grown(4096) + ",`')", 40, 1);
        Bench.gives(1, K + "define(`b',`$1$1$1$*')b(" + grown(8000) + "," + grown(767) + ")", x(32000) + "," + x(767));
        Bench.fails(1, K + "define(`b',`$1$1$1$*')\nb(" + grown(8000) + "," + grown(767) + ",)", 40, 2);
        Bench.gives(1, K + "define(`b',`$1$1$1$@')b(" + grown(8000) + "," + grown(763) + ")", x(32000) + "," + x(763));
        Bench.fails(1, K + "define(`b',`$1$1$1$@')\nb(" + grown(8000) + "," + grown(764) + ")", 40, 2);
        Bench.fails(1, K + "define(`b',`$1$1$1$@')\nb(" + grown(8000) + "," + grown(763) + ",)", 40, 2);
    }

    private static void bytesOfCalls() {
        Bench.gives(1, K + "len(" + grown(16381) + ")", "16381");
        told(Bench.fails(1, K + "\nlen(" + grown(16382) + ")", 40, 2), K.length() + 1 + 4 + 63 * 259 + 254);
        Bench.gives(1, K + "len(" + grown(16381) + ", \n,)", "16381");
        Bench.fails(1, K + "len(" + grown(16381) + ",\n\na)", 40, 3);
        Bench.gives(1, K + "len(" + grown(16379) + "()))", "16381)");
        Bench.fails(1, K + "len(" + grown(16380) + "\n())", 40, 2);
    }

    private static void bytesOfInnerCalls() {
        String bbb = K + "define(`bbb',`y')";
        Bench.gives(1, bbb + "len(" + grown(16378) + "`'bbb)", "16379");
        Bench.fails(1, bbb + "len(" + grown(16379) + "`'bbb)", 40, 1);
        Bench.gives(1, K + "len(" + grown(16376) + "`'len(12))", "16377");
        told(Bench.fails(1, K + "len(" + grown(16377) + "`'len(12))", 40, 1), K.length() + 4 + 63 * 259 + 249 + 2 + 4 + 2);
    }

    private static void bytesOfClosedCalls() {
        Bench.gives(1, K + "len(" + grown(16381) + ")len(" + grown(16381) + ")", "1638116381");
        Bench.gives(1, K + "len(len(" + grown(16378) + ")" + grown(16376) + ")", "16381");
        Bench.fails(1, K + "len(len(" + grown(16378) + ")" + grown(16377) + ")", 40, 1);
    }

    private static void numberOfArguments() {
        String b = "define(`b',`$#')\n";
        Bench.gives(1, b + "b(" + ",".repeat(8191) + ")", "\n8192");
        told(Bench.fails(1, b + "b(" + ",".repeat(8192) + ")", 40, 2), 17 + 2 + 8192);
        String c = b + "define(`c',`" + ",".repeat(1000) + "')";
        String most = "b(" + "c`'".repeat(8) + ",".repeat(191) + ")";
        Bench.gives(1, c + most + most, "\n81928192");
        Bench.fails(1, c + most + "b(" + "c`'".repeat(8) + ",".repeat(191) + "\n,)", 40, 3);
    }

    private static void numberOfArgumentsOfInnerCalls() {
        String b = "define(`b',`$#')\n";
        Bench.gives(1, b + "b(" + ",".repeat(8190) + "b(1))", "\n8191");
        told(Bench.fails(1, b + "b(" + ",".repeat(8191) + "b(1))", 40, 2), 17 + 2 + 8191 + 2);
        Bench.gives(1, b + "b(" + ",".repeat(8191) + "b)", "\n8192");
        Bench.gives(1, b + "b(" + ",".repeat(8189) + "b(1,))", "\n8190");
        Bench.fails(1, b + "b(" + ",".repeat(8190) + "b(1,))", 40, 2);
    }

    private static String meanings(int count, String with) {
        StringBuilder text = new StringBuilder();
        for (int i = 0; i < count; i++) {
            text.append(with.replace("#", Integer.toString(i)));
        }
        return text.toString();
    }

    private static void numberOfMeanings() {
        String define = "define(`n#',`')";
        Bench.gives(1, meanings(300, define) + "z", "z");
        Bench.fails(1, meanings(300, define) + "\ndefine(`z',`')", 40, 2);
        Bench.fails(1, meanings(300, define) + "\npushdef(`n3',`')", 40, 2);
        Bench.gives(1, meanings(300, define) + "define(`n3',`q')n3", "q");
    }

    private static void numberOfMeaningsOfOneName() {
        String push = "pushdef(`n',`#')";
        Bench.gives(1, meanings(300, push) + "n", "299");
        Bench.fails(1, meanings(300, push) + "\npushdef(`n',`')", 40, 2);
        Bench.gives(1, meanings(300, push) + "define(`n',`q')n popdef(`n')n", "q 298");
        Bench.gives(1, meanings(300, push) + "undefine(`n')n " + meanings(300, "pushdef(`p',#)") + "p", "n 299");
    }

    private static void builtInMeaningsCountForNothing() {
        String define = "define(`n#',`')";
        Bench.fails(1, meanings(300, define) + "define(`len',`')", 40, 1);
        Bench.gives(1, meanings(299, define) + "define(`len',`L')len", "L");
        Bench.fails(1, meanings(299, define) + "define(`len',`L')\ndefine(`incr',`')", 40, 2);
        Bench.gives(1, meanings(299, define) + "define(`len',`L')define(`len',`M')len", "M");
        Bench.fails(1, meanings(300, define) + "undefine(`len',`incr')\ndefine(`z',`')", 40, 2);
    }

    private static void meaningsThatAreGone() {
        String define = "define(`n#',`')";
        Bench.gives(1, meanings(300, define) + "undefine(`n7')define(`z',`Z')z", "Z");
        Bench.fails(1, meanings(300, define) + "undefine(`n7',`n7')define(`z',`Z')\ndefine(`y',`')", 40, 2);
        Bench.gives(1, meanings(300, define) + "undefine(`len')popdef(`n9')pushdef(`z',`Z')z", "Z");
        Bench.gives(1, meanings(300, define) + "popdef(`n9',`n8')pushdef(`z',`Z')pushdef(`z',`Y')z", "Y");
    }

    /** The macros k and a, whose names and texts have 16257 bytes. */
    private static final String FILLED = K + "define(`a',`'" + grown(15999) + ")\n";

    private static void bytesOfMeanings() {
        Bench.gives(1, FILLED + "define(`b',`" + x(126) + "')len(b)", "\n126");
        Bench.fails(1, FILLED + "define(`b',`" + x(127) + "')", 40, 2);
        Bench.gives(1, FILLED + "define(`bb',`" + x(125) + "')len(bb)", "\n125");
        Bench.fails(1, FILLED + "define(`bb',`" + x(126) + "')", 40, 2);
        Bench.gives(1, FILLED + "define(`" + x(127) + "')z", "\nz");
        Bench.fails(1, FILLED + "define(`" + x(128) + "')z", 40, 2);
    }

    private static void bytesOfMeaningsThatAreReplaced() {
        String b = FILLED + "define(`b',`" + x(100) + "')";
        Bench.gives(1, b + "define(`b',`" + x(126) + "')len(b)", "\n126");
        Bench.fails(1, b + "define(`b',`" + x(127) + "')", 40, 2);
        Bench.gives(1, b + "pushdef(`b',`" + x(25) + "')len(b)", "\n25");
        Bench.fails(1, b + "pushdef(`b',`" + x(26) + "')", 40, 2);
        Bench.gives(1, FILLED + "define(`len',`" + x(124) + "')z", "\nz");
        Bench.fails(1, FILLED + "define(`len',`" + x(125) + "')z", 40, 2);
        // A long text takes the place of another one, again and again.
        String again = "define(`a',`'" + grown(15990) + "`'yy)substr(a,15985) len(a) define(`a',`'" + grown(15991) + "`'z)substr(a,15985) len(a) ";
        Bench.gives(1, FILLED + again + again, "\n" + "xxxxxyy 15992 xxxxxxz 15992 ".repeat(2));
        String gone = K + "define(`t',`'" + grown(5000) + ")define(`u',t)define(`v',t)undefine(`t',`u',`v')\n";
        Bench.gives(1, gone + again + again, "\n" + "xxxxxyy 15992 xxxxxxz 15992 ".repeat(2));
    }

    private static void bytesOfMeaningsThatAreGone() {
        Bench.gives(1, FILLED + "undefine(`a')define(`b',`'" + grown(16126) + ")len(b)", "\n16126");
        Bench.fails(1, FILLED + "undefine(`a')define(`b',`'" + grown(16127) + ")len(b)", 40, 2);
        Bench.gives(1, FILLED + "define(`a',)define(`b',`'" + grown(16125) + ")len(b)", "\n16125");
        Bench.fails(1, FILLED + "define(`a',)define(`b',`'" + grown(16126) + ")len(b)", 40, 2);
        Bench.gives(1, FILLED + "popdef(`a')a`'define(`b',`'" + grown(16126) + ")len(b)", "\na16126");
    }

    private static void bytesOfDiversions() {
        Bench.gives(1, K + grown(32768), x(32768));
        told(Bench.fails(1, K + grown(32768) + "\n", 40, 2), K.length() + 128 * 259 + 1);
        Bench.fails(1, K + "\n" + grown(32768) + "\n", 40, 2);
        // A token goes there as a whole.
        Bench.fails(1, K + grown(32767) + "\n`a\nb'", 40, 3);
        Bench.gives(1, K + "divert(1)" + grown(10000) + "`'divert(9)" + grown(10000) + "`'divert(0)" + grown(12768), x(32768));
        Bench.fails(1, K + "divert(1)" + grown(10000) + "`'divert(9)" + grown(10000) + "`'divert(0)" + grown(12768) + "\n\n", 40, 2);
    }

    private static void bytesOfNoDiversion() {
        String much = K + grown(32000) + "`'divert(-1)" + grown(2000) + "`'";
        Bench.gives(1, much + "divert(0)" + grown(768), x(32768));
        Bench.fails(1, much + "divert(2)" + grown(768) + "\n", 40, 2);
    }

    private static void bytesThatAreUndiverted() {
        String one = K + "divert(1)" + grown(32000) + "`'";
        Bench.gives(1, one + "divert(2)undivert(1)" + grown(768), x(32768));
        Bench.fails(1, one + "divert(2)undivert(1)" + grown(768) + "\n", 40, 2);
        Bench.gives(1, one + "divert(-1)undivert(1)divert(3)" + grown(32768), x(32768));
        Bench.fails(1, one + "divert(-1)undivert(1)divert(3)" + grown(32768) + "\n", 40, 2);
        // All that was let go can be used again, and no more.
        String three = K + "divert(1)" + grown(10000) + "`'divert(2)" + grown(10000) + "`'divert(3)" + grown(10000) + "`'divert(-1)undivert(2)undivert(1,3)";
        Bench.gives(1, three + "divert(3)" + grown(16384) + "`'divert(1)" + grown(16383) + "`'y", x(16383) + "y" + x(16384));
        Bench.fails(1, three + "divert(3)" + grown(16384) + "`'divert(1)" + grown(16384) + "`'y", 40, 1);
    }

    private static void nameBeforeRoom() {
        String define = "define(`n#',`')";
        Bench.fails(1, meanings(300, define) + "\ndefine(`1',`')", 35, 2);
        Bench.fails(1, meanings(300, define) + "\npushdef(`',`')", 35, 2);
    }

    /** Texts come and go so often that their bytes must be gathered anew. */
    private static void manyMeanings() {
        String loop = "define(`loop',`ifelse($1,0,,`define(`q',`" + x(400)
                + "$1')define(`r$1',`<$1>')undefine(`r'incr($1))loop(decr($1))')')";
        Bench.gives(1, loop + "loop(250)q r1 r2", x(400) + "1 <1> r2");
        String push = "define(`loop',`ifelse($1,0,,`pushdef(`q',`" + x(40) + "$1')popdef(`q')pushdef(`p',`$1')loop(decr($1))')')";
        Bench.gives(1, push + "loop(200)p popdef(`p')p q", "1 2 q");
    }

    /** Texts that stay lie between texts that go, so that they must be moved together. */
    private static void movedMeanings() {
        StringBuilder text = new StringBuilder("define(`big',`$1" + x(900) + "$1')");
        StringBuilder want = new StringBuilder();
        for (int round = 0; round < 3; round++) {
            for (int i = 0; i < 25; i++) {
                text.append("define(`t',`'big(").append(i).append("))define(`n").append(i).append("',`<").append(i).append(":$1:").append(round).append(">')");
                if (i % 3 == 0) {
                    text.append("pushdef(`p',`p").append(i).append("')popdef(`t')");
                }
            }
        }
        text.append("define(`t',`'big(9))".repeat(60));
        for (int i = 0; i < 25; i++) {
            text.append("n").append(i).append("(a)");
            want.append("<").append(i).append(":a:2>");
        }
        text.append("len(t)p popdef(`p')p undefine(`p')p incr(1)");
        want.append("902p24 p21 p 2");
        Bench.gives(1, text.toString(), want.toString());
    }

    /** Small texts that lie behind a great one, which is gone when they must be moved. */
    private static String besideOneThatIsGone() {
        StringBuilder text = new StringBuilder(K + "define(`w',`'" + grown(15620) + ")");
        for (int i = 0; i < 9; i++) {
            text.append("define(`s").append(i).append("',`").append(i).append("bcdefgh')");
        }
        text.append("undefine(`w')define(`define',`D')");
        text.append(("pushdef(`v',`'" + grown(15990) + ")popdef(`v')").repeat(3));
        for (int i = 0; i < 9; i++) {
            text.append("s").append(i).append(" ");
        }
        return text + "define(k) incr(1) len(`ab') v";
    }

    private static String givenBesideOneThatIsGone() {
        StringBuilder want = new StringBuilder();
        for (int i = 0; i < 9; i++) {
            want.append(i).append("bcdefgh ");
        }
        return want + "D 2 2 v";
    }

    private static void meaningsBesideOneThatIsGone() {
        Bench.gives(1, besideOneThatIsGone(), givenBesideOneThatIsGone());
    }

    /** The texts that a run had in its end take no room of the next one, be they of a built-in name. */
    private static void meaningsOfTheRunBefore() {
        Bench bench = new Bench().about("meanings of the run before");
        bench.file("before", K + "define(`p',`'" + grown(8000) + ")define(`q',`'" + grown(7000) + ")define(`incr',`" + x(300) + "')");
        bench.file("behind", K + ("define(`v',`'" + grown(16000) + ")").repeat(4) + "len(v)incr(1)eval(1+1)k");
        for (int i = 0; i < 2; i++) {
            bench.due("run", bench.mill.run(0, 1, 400000, 0), 0);
            bench.due("run", bench.mill.run(1, 1, 400000, 0), 0);
            bench.due("out", bench.out(), "1600022" + x(256));
        }
        Bench many = new Bench().about("many meanings of the run before");
        many.file("before", K + meanings(10, "define(`n#',1)") + "define(`q',`'" + grown(15990) + ")");
        many.file("behind", besideOneThatIsGone());
        many.due("run", many.mill.run(0, 1, 400000, 0), 0);
        many.due("run", many.mill.run(1, 1, 400000, 0), 0);
        many.due("out", many.out(), givenBesideOneThatIsGone());
    }

    /** Aa and BB have the same sum of 31 times a byte and the next one, and so may lie in one chain. */
    private static void namesBehindOneAnother() {
        Bench.gives(1, "pushdef(`BB',1)undefine(`define')pushdef(`Aa',2)undefine(`BB')Aa BB", "2 BB");
        Bench.gives(1, "pushdef(`Aa',1)undefine(`define')pushdef(`BB',2)popdef(`Aa')Aa BB", "Aa 2");
        Bench.gives(1, "pushdef(`Aa',1)pushdef(`BB',2)pushdef(`Aa',3)undefine(`define')pushdef(`BB',4)undefine(`Aa')Aa BB`'popdef(`BB')BB", "Aa 42");
    }

    /** So many names that some of them lie in the same chain. */
    private static void manyNames() {
        StringBuilder text = new StringBuilder(meanings(180, "define(`n#',#,)"));
        StringBuilder want = new StringBuilder();
        for (int i = 0; i < 180; i += 2) {
            text.append(i % 4 == 0 ? "undefine(`n" : "popdef(`n").append(i).append("')");
        }
        for (int i = 0; i < 180; i++) {
            text.append("n").append(i).append(" ");
            want.append(i % 2 == 0 ? "n" : "").append(i).append(" ");
        }
        Bench.gives(1, text.toString(), want.toString());
    }

    /** A run that an error ended leaves nothing to the next one. */
    private static void behindAnError() {
        Bench bench = new Bench().about("runs behind errors");
        String[] texts = {"define(`a',`(')divert(3)len(`x',", "`a", "define(`a',1)divert(2)b`'changequote([,])incr([x])", "define(`f',`f(`$1')')f(1", "len((((", "a`'len(abc)dnl"};
        int[] errors = {33, 32, 36, 33, 33, 0};
        for (int i = 0; i < texts.length; i++) {
            bench.file("t" + i, texts[i]);
        }
        for (int i = 0; i < texts.length; i++) {
            bench.due("run", bench.mill.run(i, 1, 1000, 0), errors[i]);
            bench.due("size", bench.mill.size(), errors[i] == 0 ? 2 : 0);
            bench.due("run", bench.mill.run(5, 1, 1000, 0), 0);
            bench.due("out", bench.out(), "a3");
            bench.due("told(2)", bench.mill.told(2), 15);
        }
    }

    private static void roomBehindAnError() {
        Bench bench = new Bench().about("room behind errors");
        String c = "define(`b',`$#')define(`c',`" + ",".repeat(600) + "')b(" + "c`'".repeat(13) + ",".repeat(391);
        String[] texts = {K + "len(" + grown(16381), c, "define(`f',`')" + "f(".repeat(50), K + "divert(1)" + grown(32768) + "`'len("};
        String[] ends = {")", ")", ")".repeat(50), ")"};
        String[] want = {"16381", "8192", ""};
        for (int i = 0; i < texts.length; i++) {
            bench.file("e" + i, texts[i]);
            bench.file("f" + i, i < 3 ? texts[i] + ends[i] : K + grown(32768));
        }
        for (int i = 0; i < texts.length; i++) {
            bench.due("run", bench.mill.run(2 * i, 1, 400000, 0), 33);
            for (int k = 0; k < texts.length; k++) {
                bench.due("run", bench.mill.run(2 * k + 1, 1, 400000, 0), 0);
                if (k < 3) {
                    bench.due("out", bench.out(), want[k]);
                } else {
                    bench.due("size", bench.mill.size(), 32768);
                }
            }
        }
    }
}
