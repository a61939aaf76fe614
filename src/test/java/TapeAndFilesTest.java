/** Promises 1 to 6: a new object, the tape and the files. */
public final class TapeAndFilesTest {
    private static final int BAD = MacroMill.BAD, THERE = MacroMill.THERE, FULL = MacroMill.FULL;

    public static void main(String[] args) {
        constants();
        newObject();
        feeding();
        ending();
        fullTape();
        filing();
        fullFiles();
        writing();
        usingUpTheTape();
        clearing();
        Bench.finish("TapeAndFilesTest");
    }

    private static void constants() {
        Bench bench = new Bench().about("constants");
        bench.due("BAD", MacroMill.BAD, -1);
        bench.due("NONE", MacroMill.NONE, -2);
        bench.due("THERE", MacroMill.THERE, -3);
        bench.due("FULL", MacroMill.FULL, -4);
    }

    private static void newObject() {
        Bench bench = new Bench().about("a new object");
        bench.due("run", bench.mill.run(0, 1, 1, 0), BAD);
        for (int what = 0; what <= 5; what++) {
            bench.due("told", bench.mill.told(what), 0);
        }
        bench.due("size", bench.mill.size(), 0);
        bench.due("word", bench.mill.word(0), 0);
        bench.due("astray", bench.mill.astray(), 0);
        bench.due("parameters", bench.mill.parameters(), BAD);
        bench.due("end", bench.mill.end(0), BAD);
        bench.due("file", bench.mill.file(1), BAD);
        bench.due("write", bench.mill.write(0), BAD);
        bench.due("clear", bench.mill.clear(), 0);
    }

    private static void feeding() {
        Bench bench = new Bench().about("feed");
        bench.due("feed", bench.mill.feed(0x74414243, 0x44FF8000, 0x20414243, 0x0A0D097F, 0x61626364), 20);
        bench.due("file", bench.mill.file(1), 0);
        bench.due("run", bench.mill.run(0, 1, 100, 0), 0);
        bench.due("out", bench.out(), "ABCD\u00ff\u0080\u0000 ABC\n\r\t\u007fabcd");
        bench.due("feed", bench.mill.feed(1, 2, 3, 4, 5), 20);
        bench.due("feed", bench.mill.feed(-1, -2, -3, -4, -5), 40);
    }

    private static void ending() {
        Bench bench = new Bench().about("end");
        bench.due("end", bench.mill.end(5), BAD);
        bench.mill.feed(0x61626364, 0x65666768, 0, 0, 0);
        bench.due("end(-1)", bench.mill.end(-1), BAD);
        bench.due("end(21)", bench.mill.end(21), BAD);
        bench.due("end(8)", bench.mill.end(8), 8);
        bench.due("end again", bench.mill.end(8), BAD);
        bench.due("feed", bench.mill.feed(0x7A000000, 0, 0, 0, 0), 28);
        bench.due("end(0)", bench.mill.end(0), 8);
        bench.due("end(0) again", bench.mill.end(0), BAD);
        bench.due("feed", bench.mill.feed(0x69000000, 0, 0, 0, 0), 28);
        bench.due("end(20)", bench.mill.end(20), 28);
        bench.due("feed", bench.mill.feed(0x69000000, 0, 0, 0, 0), 48);
        bench.due("file", bench.mill.file(1), 0);
        bench.due("end behind file", bench.mill.end(3), BAD);
        bench.mill.feed(1, 1, 1, 1, 1);
        bench.mill.write(7);
        bench.due("end behind write", bench.mill.end(3), BAD);
        bench.mill.feed(1, 1, 1, 1, 1);
        bench.mill.parameters();
        bench.due("end behind parameters", bench.mill.end(3), BAD);
        bench.mill.feed(1, 1, 1, 1, 1);
        bench.mill.clear();
        bench.mill.run(0, 1, 1, 1);
        bench.due("end behind clear and run", bench.mill.end(3), 3);
    }

    private static void fullTape() {
        Bench bench = new Bench().about("a full tape");
        for (int i = 1; i <= 819; i++) {
            bench.due("feed", bench.mill.feed(i, i, i, i, i), 20 * i);
        }
        bench.due("feed", bench.mill.feed(1, 1, 1, 1, 1), FULL);
        bench.due("end behind FULL", bench.mill.end(4), 16364);
        bench.due("feed", bench.mill.feed(1, 1, 1, 1, 1), 16384);
        bench.due("feed", bench.mill.feed(1, 1, 1, 1, 1), FULL);
        bench.due("end", bench.mill.end(20), 16384);
        bench.due("feed", bench.mill.feed(1, 1, 1, 1, 1), FULL);
        bench.due("end, nothing came", bench.mill.end(20), BAD);
    }

    private static void filing() {
        Bench bench = new Bench().about("file");
        String title = "t".repeat(64);
        bench.lay("abc");
        bench.due("file(0)", bench.mill.file(0), BAD);
        bench.lay("abc");
        bench.due("file(-1)", bench.mill.file(-1), BAD);
        bench.lay("abc");
        bench.due("file(4)", bench.mill.file(4), BAD);
        bench.lay(title + "xy");
        bench.due("file(65)", bench.mill.file(65), BAD);
        bench.lay(title + "xy");
        bench.due("file(64)", bench.mill.file(64), 0);
        bench.lay(title + "z");
        bench.due("file(64) again", bench.mill.file(64), THERE);
        bench.lay(title);
        bench.due("file(63)", bench.mill.file(63), 1);
        bench.lay("abc");
        bench.due("file(3), no bytes", bench.mill.file(3), 2);
        bench.due("run", bench.mill.run(0, 1, 100, 0), 0);
        bench.due("out", bench.out(), "xy");
        bench.due("run", bench.mill.run(1, 1, 100, 0), 0);
        bench.due("out", bench.out(), "t");
        bench.due("run", bench.mill.run(2, 1, 100, 0), 0);
        bench.due("out", bench.out(), "");
        bench.due("run(3)", bench.mill.run(3, 1, 100, 0), BAD);
    }

    private static void fullFiles() {
        Bench bench = new Bench().about("32 files");
        for (int i = 0; i < 32; i++) {
            bench.due("file", bench.file(Character.toString((char) ('0' + i)), "x" + i), i);
        }
        bench.due("one more", bench.file("z", "y"), FULL);
        bench.due("one that is there", bench.file("3", "y"), THERE);
        bench.lay("z");
        bench.due("BAD first", bench.mill.file(2), BAD);
        bench.due("run", bench.mill.run(31, 1, 100, 0), 0);
        bench.due("out", bench.out(), "x31");

        bench = new Bench().about("32768 bytes");
        bench.due("file", bench.file("a", "x".repeat(32767)), 0);
        bench.lay("bcd");
        bench.due("too much", bench.mill.file(1), FULL);
        bench.lay("bc");
        bench.due("just enough", bench.mill.file(1), 1);
        bench.lay("ccc");
        bench.due("titles count for nothing", bench.mill.file(3), 2);
        bench.lay("aa");
        bench.due("THERE before FULL", bench.mill.file(1), THERE);
    }

    private static void writing() {
        Bench bench = new Bench().about("write");
        bench.file("a", "A");
        bench.file("b", "B");
        bench.file("c", "C");
        bench.lay("xyz");
        bench.due("write(3)", bench.mill.write(3), BAD);
        bench.lay("xyz");
        bench.due("write(-1)", bench.mill.write(-1), BAD);
        bench.lay("xyz");
        bench.due("write(0)", bench.mill.write(0), 4);
        bench.lay("12");
        bench.due("write(1)", bench.mill.write(1), 3);
        bench.due("write(1), no bytes", bench.mill.write(1), 3);
        bench.lay("-");
        bench.due("write(2)", bench.mill.write(2), 2);
        String[] want = {"Axyz", "B12", "C-"};
        for (int i = 0; i < 3; i++) {
            bench.due("run", bench.mill.run(i, 1, 100, 0), 0);
            bench.due("out", bench.out(), want[i]);
        }
        bench.lay("w".repeat(16380));
        bench.due("much", bench.mill.write(0), 16384);
        bench.lay("w".repeat(16380));
        bench.due("too much", bench.mill.write(1), FULL);
        bench.lay("w".repeat(16379));
        bench.due("just enough", bench.mill.write(1), 16382);
        bench.due("run", bench.mill.run(2, 1, 100, 0), 0);
        bench.due("out", bench.out(), "C-");
    }

    private static void usingUpTheTape() {
        Bench bench = new Bench().about("the tape is used up");
        bench.lay("abc");
        bench.mill.file(9);
        bench.due("behind a BAD file", bench.mill.feed(0, 0, 0, 0, 0), 20);
        bench.mill.write(9);
        bench.due("behind a BAD write", bench.mill.feed(0, 0, 0, 0, 0), 20);
        bench.mill.parameters();
        bench.due("behind BAD parameters", bench.mill.feed(0, 0, 0, 0, 0), 20);
        bench.mill.told(0);
        bench.mill.size();
        bench.mill.word(0);
        bench.mill.clear();
        bench.mill.run(0, 2, 1, 1);
        bench.due("not behind others", bench.mill.feed(0, 0, 0, 0, 0), 40);
    }

    private static void clearing() {
        Bench bench = new Bench().about("clear");
        bench.file("a", "#define f(x,y) x\n#define g 1\nf(a,b)");
        bench.file("b", "#define");
        bench.due("run", bench.mill.run(0, 2, 1, 0), 0);
        bench.due("clear", bench.mill.clear(), 2);
        bench.due("clear", bench.mill.clear(), 0);
        bench.due("run", bench.mill.run(0, 2, 1, 0), BAD);
        bench.due("out", bench.out(), "a\n");
        bench.due("told(3)", bench.mill.told(3), 1);
        bench.due("told(5)", bench.mill.told(5), 2);
        bench.due("parameters", bench.parameters("f"), 2);
        bench.due("file", bench.file("b", "q"), 0);
        bench.due("run", bench.mill.run(0, 2, 1, 0), 0);
        bench.due("out", bench.out(), "q\n");
        bench.due("told(5)", bench.mill.told(5), 0);
        bench.due("the bytes are free again", bench.file("c", "x".repeat(32767)), 1);
    }
}
