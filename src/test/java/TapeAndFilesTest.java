/** Promises 1 to 6: a new object, the tape and the files. */
public final class TapeAndFilesTest {
    private static final int BAD = MacroMill.BAD, THERE = MacroMill.THERE, FULL = MacroMill.FULL;
    private static final int LEAST = Integer.MIN_VALUE, MOST = Integer.MAX_VALUE;

    public static void main(String[] args) {
        constants();
        newObject();
        newObjectHasAnEmptyTape();
        feeding();
        feedsOfAllCalls();
        lastFeedThatIsTaken();
        firstFeedThatIsFull();
        fullFeedChangesNothing();
        endings();
        wrongEnds();
        wrongEndChangesNothing();
        endOnceForEachFeed();
        endBehindUsedTape();
        endBehindFullFeed();
        titleLengths();
        titleAsLongAsTheTape();
        titlesThatAreThere();
        numberOfFiles();
        bytesOfFiles();
        orderOfFileAnswers();
        writing();
        writingNothing();
        wrongWrites();
        fullWrites();
        usingUpTheTape();
        clearing();
        clearingLeavesWhatWasTold();
        Bench.finish("TapeAndFilesTest");
    }

    private static void constants() {
        Bench bench = new Bench().about("constants");
        bench.due("BAD", MacroMill.BAD, -1);
        bench.due("NONE", MacroMill.NONE, -2);
        bench.due("THERE", MacroMill.THERE, -3);
        bench.due("FULL", MacroMill.FULL, -4);
    }

    private static void newObject() {
        Bench bench = new Bench().about("a new object");
        bench.due("run", bench.mill.run(0, 1, 1, 0), BAD);
        for (int what = 0; what <= 5; what++) {
            bench.due("told", bench.mill.told(what), 0);
        }
        bench.due("size", bench.mill.size(), 0);
        bench.due("word", bench.mill.word(0), 0);
        bench.due("astray", bench.mill.astray(), 0);
        bench.due("parameters", bench.mill.parameters(), BAD);
        bench.due("end", bench.mill.end(0), BAD);
        bench.due("file", bench.mill.file(1), BAD);
        bench.due("write", bench.mill.write(0), BAD);
        bench.due("clear", bench.mill.clear(), 0);
    }

    private static void newObjectHasAnEmptyTape() {
        Bench bench = new Bench().about("a new object's tape");
        bench.due("feed", bench.mill.feed(0x61780000, 0, 0, 0, 0), 20);
        bench.due("end", bench.mill.end(2), 2);
        bench.due("file", bench.mill.file(1), 0);
        bench.due("run", bench.mill.run(0, 1, 100, 0), 0);
        bench.due("out", bench.out(), "x");
        Bench other = new Bench().about("another one knows nothing of it");
        other.due("run", other.mill.run(0, 1, 100, 0), BAD);
        other.due("size", other.mill.size(), 0);
    }

    private static void feeding() {
        Bench bench = new Bench().about("feed");
        bench.due("feed", bench.mill.feed(0x74414243, 0x44FF8000, 0x20414243, 0x0A0D097F, 0x61626364), 20);
        bench.due("file", bench.mill.file(1), 0);
        bench.due("run", bench.mill.run(0, 1, 100, 0), 0);
        bench.due("out", bench.out(), "ABCD\u00ff\u0080\u0000 ABC\n\r\t\u007fabcd");
        bench.due("feed", bench.mill.feed(1, 2, 3, 4, 5), 20);
        bench.due("feed", bench.mill.feed(-1, -2, -3, -4, -5), 40);
        bench.due("feed", bench.mill.feed(LEAST, MOST, LEAST, MOST, 0), 60);
        bench.due("file", bench.mill.file(20), 1);
        bench.due("run", bench.mill.run(1, 1, 100, 0), 0);
        bench.due("out", bench.out(), "\u00ff\u00ff\u00ff\u00ff\u00ff\u00ff\u00ff\u00fe\u00ff\u00ff\u00ff\u00fd\u00ff\u00ff\u00ff\u00fc\u00ff\u00ff\u00ff\u00fb"
                + "\u0080\0\0\0\u007f\u00ff\u00ff\u00ff\u0080\0\0\0\u007f\u00ff\u00ff\u00ff\0\0\0\0");
    }

    /** As many bytes as an object's calls can bring are all taken. */
    private static void feedsOfAllCalls() {
        Bench bench = new Bench().about("512 calls");
        for (int i = 1; i <= 509; i++) {
            bench.due("feed", bench.mill.feed(i << 24, 0, 0, 0, 0x41), 20 * i);
        }
        bench.due("file", bench.mill.file(1), 0);
        bench.due("run", bench.mill.run(0, 1, 400000, 0), 0);
        bench.due("size", bench.mill.size(), 10179);
    }

    private static void lastFeedThatIsTaken() {
        Bench bench = new Bench().about("a tape of 16364 bytes");
        bench.mill.stretchTape(16364, 'x');
        bench.due("feed", bench.mill.feed(0x61626364, 0, 0, 0, 0x65), 16384);
        bench.due("feed", bench.mill.feed(1, 1, 1, 1, 1), FULL);
        bench.due("end", bench.mill.end(4), 16368);
        bench.due("file", bench.mill.file(1), 0);
        bench.due("run", bench.mill.run(0, 1, 400000, 0), 0);
        bench.due("size", bench.mill.size(), 16367);
        bench.due("word", bench.mill.word(2045), 0x64636261787878L);
    }

    private static void firstFeedThatIsFull() {
        for (int size : new int[] {16365, 16366, 16383, 16384}) {
            Bench bench = new Bench().about("a tape of " + size + " bytes");
            bench.mill.stretchTape(size, 'x');
            bench.due("feed", bench.mill.feed(0x61626364, 0, 0, 0, 0), FULL);
            bench.due("file", bench.mill.file(1), 0);
            bench.due("run", bench.mill.run(0, 1, 400000, 0), 0);
            bench.due("size", bench.mill.size(), size - 1);
            bench.due("feed", bench.mill.feed(0x61626364, 0, 0, 0, 0), 20);
        }
    }

    private static void fullFeedChangesNothing() {
        Bench bench = new Bench().about("a FULL feed changes nothing");
        bench.mill.stretchTape(16350, 'x');
        bench.due("feed", bench.mill.feed(0x61626364, 0x65666768, 0x696A6B6C, 0x6D6E6F70, 0x71727374), 16370);
        bench.due("feed", bench.mill.feed(-1, -1, -1, -1, -1), FULL);
        bench.due("feed", bench.mill.feed(-1, -1, -1, -1, -1), FULL);
        bench.due("end, of the bytes that came before", bench.mill.end(3), 16353);
        bench.due("feed", bench.mill.feed(0x31323334, 0, 0, 0, 0), 16373);
        bench.due("file", bench.mill.file(10), 0);
        bench.due("run", bench.mill.run(0, 1, 400000, 0), 0);
        bench.due("size", bench.mill.size(), 16363);
        bench.due("word", bench.mill.word(2042), 0x3163626178787878L);
    }

    private static void endings() {
        for (int n = 0; n <= 20; n++) {
            Bench bench = new Bench().about("end(" + n + ")");
            bench.mill.feed(0x61626364, 0x65666768, 0x696A6B6C, 0x6D6E6F70, 0x71727374);
            bench.due("feed", bench.mill.feed(0x41424344, 0x45464748, 0x494A4B4C, 0x4D4E4F50, 0x51525354), 40);
            bench.due("end", bench.mill.end(n), 20 + n);
            bench.due("file", bench.mill.file(5), 0);
            bench.due("run", bench.mill.run(0, 1, 400000, 0), 0);
            bench.due("out", bench.out(), "fghijklmnopqrst" + "ABCDEFGHIJKLMNOPQRST".substring(0, n));
        }
        Bench bench = new Bench().about("end(0) of the only feed");
        bench.mill.feed(0x61626364, 0, 0, 0, 0);
        bench.due("end", bench.mill.end(0), 0);
        bench.due("file", bench.mill.file(1), BAD);
    }

    private static void wrongEnds() {
        Bench bench = new Bench().about("wrong ends");
        bench.due("nothing was fed", bench.mill.end(5), BAD);
        bench.mill.feed(0x61626364, 0, 0, 0, 0);
        for (int n : new int[] {-1, -20, 21, 40, LEAST, MOST}) {
            bench.due("end(" + n + ")", bench.mill.end(n), BAD);
        }
        bench.due("end(20)", bench.mill.end(20), 20);
    }

    private static void wrongEndChangesNothing() {
        Bench bench = new Bench().about("a BAD end changes nothing");
        bench.mill.feed(0x61626364, 0x65666768, 0, 0, 0);
        bench.due("end(-1)", bench.mill.end(-1), BAD);
        bench.due("end(21)", bench.mill.end(21), BAD);
        bench.due("end(8)", bench.mill.end(8), 8);
        bench.due("end(8) again", bench.mill.end(8), BAD);
        bench.due("end(3)", bench.mill.end(3), BAD);
        bench.due("file", bench.mill.file(1), 0);
        bench.due("run", bench.mill.run(0, 1, 400000, 0), 0);
        bench.due("out", bench.out(), "bcdefgh");
    }

    private static void endOnceForEachFeed() {
        Bench bench = new Bench().about("end once for each feed");
        bench.mill.feed(0x61626364, 0x65666768, 0, 0, 0);
        bench.due("end(8)", bench.mill.end(8), 8);
        bench.due("feed", bench.mill.feed(0x7A000000, 0, 0, 0, 0), 28);
        bench.due("end(0)", bench.mill.end(0), 8);
        bench.due("end(0) again", bench.mill.end(0), BAD);
        bench.due("feed", bench.mill.feed(0x69000000, 0, 0, 0, 0), 28);
        bench.due("end(20)", bench.mill.end(20), 28);
        bench.due("end(20) again", bench.mill.end(20), BAD);
        bench.due("feed", bench.mill.feed(0x69000000, 0, 0, 0, 0), 48);
        bench.due("feed", bench.mill.feed(0x69000000, 0, 0, 0, 0), 68);
        bench.due("end(1)", bench.mill.end(1), 49);
        bench.due("not of the feed before", bench.mill.end(1), BAD);
    }

    private static void endBehindUsedTape() {
        Bench bench = new Bench().about("end behind a used tape");
        bench.mill.feed(0x61626364, 1, 1, 1, 1);
        bench.due("file", bench.mill.file(1), 0);
        bench.due("end behind file", bench.mill.end(3), BAD);
        bench.mill.feed(1, 1, 1, 1, 1);
        bench.due("BAD file", bench.mill.file(0), BAD);
        bench.due("end behind BAD file", bench.mill.end(3), BAD);
        bench.mill.feed(1, 1, 1, 1, 1);
        bench.due("write", bench.mill.write(0), 39);
        bench.due("end behind write", bench.mill.end(3), BAD);
        bench.mill.feed(1, 1, 1, 1, 1);
        bench.due("BAD write", bench.mill.write(7), BAD);
        bench.due("end behind BAD write", bench.mill.end(3), BAD);
        bench.mill.feed(1, 1, 1, 1, 1);
        bench.due("parameters", bench.mill.parameters(), BAD);
        bench.due("end behind parameters", bench.mill.end(3), BAD);
        bench.mill.feed(1, 1, 1, 1, 1);
        bench.mill.run(0, 2, 1, 1);
        bench.mill.told(0);
        bench.mill.size();
        bench.mill.word(0);
        bench.mill.astray();
        bench.mill.clear();
        bench.due("end behind calls that leave the tape", bench.mill.end(3), 3);
    }

    private static void endBehindFullFeed() {
        Bench bench = new Bench().about("end behind a FULL feed");
        bench.mill.stretchTape(16384, 'x');
        bench.due("feed", bench.mill.feed(1, 1, 1, 1, 1), FULL);
        bench.due("no feed that was not FULL", bench.mill.end(20), BAD);
        bench = new Bench().about("end behind a FULL feed, and one before");
        bench.mill.stretchTape(16364, 'x');
        bench.due("feed", bench.mill.feed(1, 1, 1, 1, 1), 16384);
        bench.due("end", bench.mill.end(20), 16384);
        bench.due("feed", bench.mill.feed(1, 1, 1, 1, 1), FULL);
        bench.due("the end before counts", bench.mill.end(20), BAD);
    }

    private static void titleLengths() {
        Bench bench = new Bench().about("titles");
        String title = "t".repeat(64);
        for (int n : new int[] {0, -1, 65, 66, LEAST, MOST}) {
            bench.lay(title + "xyz");
            bench.due("file(" + n + ")", bench.mill.file(n), BAD);
        }
        bench.due("none is there", bench.mill.run(0, 1, 100, 0), BAD);
        bench.lay(title + "xyz");
        bench.due("file(64)", bench.mill.file(64), 0);
        bench.lay(title + "xyz");
        bench.due("file(1)", bench.mill.file(1), 1);
        bench.due("run", bench.mill.run(0, 1, 100, 0), 0);
        bench.due("out", bench.out(), "xyz");
        bench.due("run", bench.mill.run(1, 1, 100, 0), 0);
        bench.due("out", bench.out(), "t".repeat(63) + "xyz");
        bench.due("run(2)", bench.mill.run(2, 1, 100, 0), BAD);
    }

    private static void titleAsLongAsTheTape() {
        Bench bench = new Bench().about("a title as long as the tape");
        bench.due("file(1) of nothing", bench.mill.file(1), BAD);
        bench.lay("abc");
        bench.due("file(4)", bench.mill.file(4), BAD);
        bench.due("the tape is used up", bench.mill.file(3), BAD);
        bench.lay("abc");
        bench.due("file(3)", bench.mill.file(3), 0);
        bench.due("run", bench.mill.run(0, 1, 100, 0), 0);
        bench.due("size", bench.mill.size(), 0);
        bench.lay("xy");
        bench.due("write", bench.mill.write(0), 2);
        bench.lay("t".repeat(63));
        bench.due("file(64)", bench.mill.file(64), BAD);
        bench.lay("t".repeat(64));
        bench.due("file(64)", bench.mill.file(64), 1);
    }

    private static void titlesThatAreThere() {
        Bench bench = new Bench().about("titles that are there");
        bench.due("ab", bench.file("ab", "1"), 0);
        bench.due("ab again", bench.file("ab", "2"), THERE);
        bench.due("the tape is used up", bench.mill.feed(0, 0, 0, 0, 0), 20);
        bench.mill.end(0);
        bench.due("a", bench.file("a", "b3"), 1);
        bench.due("abc", bench.file("abc", "4"), 2);
        bench.due("aB", bench.file("aB", "5"), 3);
        bench.due("a and 0", bench.file("a\0", "6"), 4);
        bench.due("a and 0 again", bench.file("a\0", ""), THERE);
        String[] want = {"1", "b3", "4", "5", "6"};
        for (int i = 0; i < want.length; i++) {
            bench.due("run", bench.mill.run(i, 1, 100, 0), 0);
            bench.due("out", bench.out(), want[i]);
        }
        bench.due("run", bench.mill.run(5, 1, 100, 0), BAD);
    }

    private static void numberOfFiles() {
        Bench bench = new Bench().about("32 files");
        for (int i = 0; i < 32; i++) {
            bench.due("file", bench.file(Character.toString((char) ('0' + i)), "x" + i), i);
        }
        bench.due("one more", bench.file("z", "y"), FULL);
        bench.due("one more without bytes", bench.file("y", ""), FULL);
        bench.due("the tape is used up", bench.mill.file(1), BAD);
        bench.due("it is not there", bench.mill.run(32, 1, 100, 0), BAD);
        bench.due("run", bench.mill.run(31, 1, 100, 0), 0);
        bench.due("out", bench.out(), "x31");
        bench.lay("!");
        bench.due("write", bench.mill.write(31), 4);
        bench.due("clear", bench.mill.clear(), 32);
        bench.due("file", bench.file("z", "y"), 0);
    }

    private static void bytesOfFiles() {
        Bench bench = new Bench().about("32768 bytes");
        bench.mill.stretchTape(16384, 'x');
        bench.due("file", bench.mill.file(2), 0);
        bench.mill.stretchTape(16384, 'x');
        bench.due("write", bench.mill.write(0), 32766);
        bench.lay("bcde");
        bench.due("a byte too much", bench.mill.file(1), FULL);
        bench.due("it is not there", bench.mill.run(1, 1, 100, 0), BAD);
        bench.lay("bcd");
        bench.due("just enough", bench.mill.file(1), 1);
        bench.lay("bbb");
        bench.due("titles count for nothing", bench.mill.file(3), 2);
        bench.lay("cd");
        bench.due("a byte too much", bench.mill.file(1), FULL);
        bench.due("run", bench.mill.run(1, 1, 100, 0), 0);
        bench.due("out", bench.out(), "cd");
        bench.due("run", bench.mill.run(0, 1, 400000, 0), 0);
        bench.due("size", bench.mill.size(), 32766);
        bench.due("clear", bench.mill.clear(), 3);
        bench.mill.stretchTape(16384, 'x');
        bench.due("the bytes are free again", bench.mill.file(1), 0);
        bench.mill.stretchTape(16384, 'x');
        bench.due("write", bench.mill.write(0), 32767);
    }

    private static void orderOfFileAnswers() {
        Bench bench = new Bench().about("BAD, THERE, FULL in this order");
        for (int i = 0; i < 32; i++) {
            bench.file("t" + i, "");
        }
        bench.lay("t3");
        bench.due("BAD before THERE", bench.mill.file(3), BAD);
        bench.due("THERE before FULL", bench.file("t3", "y"), THERE);
        bench.lay("zz");
        bench.due("BAD before FULL", bench.mill.file(3), BAD);
        bench.due("FULL", bench.file("zz", ""), FULL);
        bench = new Bench().about("THERE before FULL by bytes");
        bench.mill.stretchTape(16384, 'a');
        bench.due("file", bench.mill.file(1), 0);
        bench.mill.stretchTape(16384, 'x');
        bench.due("write", bench.mill.write(0), 32767);
        bench.lay("axx");
        bench.due("THERE", bench.mill.file(1), THERE);
        bench.lay("bxx");
        bench.due("FULL", bench.mill.file(1), FULL);
    }

    private static void writing() {
        Bench bench = new Bench().about("write");
        bench.file("a", "A");
        bench.file("b", "B");
        bench.file("c", "C");
        bench.lay("xyz");
        bench.due("write(0)", bench.mill.write(0), 4);
        bench.lay("12");
        bench.due("write(1)", bench.mill.write(1), 3);
        bench.lay("-");
        bench.due("write(2)", bench.mill.write(2), 2);
        bench.lay("+");
        bench.due("write(0)", bench.mill.write(0), 5);
        String[] want = {"Axyz+", "B12", "C-"};
        for (int i = 0; i < 3; i++) {
            bench.due("run", bench.mill.run(i, 1, 100, 0), 0);
            bench.due("out", bench.out(), want[i]);
        }
    }

    private static void writingNothing() {
        Bench bench = new Bench().about("an empty tape");
        bench.file("a", "");
        bench.file("b", "B");
        bench.due("write(0)", bench.mill.write(0), 0);
        bench.due("write(1)", bench.mill.write(1), 1);
        bench.due("write(2)", bench.mill.write(2), BAD);
        bench.due("run", bench.mill.run(1, 1, 100, 0), 0);
        bench.due("out", bench.out(), "B");
    }

    private static void wrongWrites() {
        Bench bench = new Bench().about("wrong writes");
        bench.lay("xyz");
        bench.due("no file at all", bench.mill.write(0), BAD);
        bench.file("a", "A");
        bench.file("b", "B");
        for (int file : new int[] {-1, 2, 3, 32, LEAST, MOST}) {
            bench.lay("xyz");
            bench.due("write(" + file + ")", bench.mill.write(file), BAD);
            bench.due("the tape is used up", bench.mill.write(0), 1);
        }
        bench.due("run", bench.mill.run(0, 1, 100, 0), 0);
        bench.due("out", bench.out(), "A");
        bench.mill.clear();
        bench.lay("xyz");
        bench.due("behind clear", bench.mill.write(0), BAD);
    }

    private static void fullWrites() {
        Bench bench = new Bench().about("full writes");
        bench.file("a", "A");
        bench.file("b", "B");
        bench.file("c", "C");
        bench.mill.stretchTape(16384, 'w');
        bench.due("much", bench.mill.write(0), 16385);
        bench.mill.stretchTape(16382, 'w');
        bench.due("a byte too much", bench.mill.write(1), FULL);
        bench.due("the tape is used up", bench.mill.write(1), 1);
        bench.mill.stretchTape(16382, 'w');
        bench.due("BAD before FULL", bench.mill.write(3), BAD);
        bench.mill.stretchTape(16381, 'w');
        bench.due("just enough", bench.mill.write(1), 16382);
        bench.lay("w");
        bench.due("one more", bench.mill.write(2), FULL);
        bench.due("none more", bench.mill.write(2), 1);
        bench.due("run", bench.mill.run(2, 1, 100, 0), 0);
        bench.due("out", bench.out(), "C");
        bench.due("run", bench.mill.run(1, 1, 400000, 0), 0);
        bench.due("size", bench.mill.size(), 16382);
        bench.due("word", bench.mill.word(0), 0x7777777777777742L);
    }

    private static void usingUpTheTape() {
        Bench bench = new Bench().about("the tape is used up");
        bench.lay("abc");
        bench.mill.file(9);
        bench.due("behind a BAD file", bench.mill.feed(0, 0, 0, 0, 0), 20);
        bench.due("file", bench.mill.file(1), 0);
        bench.due("behind a file", bench.mill.feed(0, 0, 0, 0, 0), 20);
        bench.due("THERE", bench.mill.file(1), THERE);
        bench.due("behind a file that is THERE", bench.mill.feed(0, 0, 0, 0, 0), 20);
        bench.mill.write(9);
        bench.due("behind a BAD write", bench.mill.feed(0, 0, 0, 0, 0), 20);
        bench.mill.write(0);
        bench.due("behind a write", bench.mill.feed(0, 0, 0, 0, 0), 20);
        bench.mill.parameters();
        bench.due("behind BAD parameters", bench.mill.feed(0, 0, 0, 0, 0), 20);
        bench.mill.told(0);
        bench.mill.size();
        bench.mill.word(0);
        bench.mill.astray();
        bench.mill.run(0, 2, 1, 1);
        bench.mill.run(9, 2, 1, 1);
        bench.mill.clear();
        bench.due("not behind others", bench.mill.feed(0, 0, 0, 0, 0), 40);
    }

    private static void clearing() {
        Bench bench = new Bench().about("clear");
        bench.due("clear, no files", bench.mill.clear(), 0);
        bench.file("a", "x");
        bench.due("clear", bench.mill.clear(), 1);
        bench.due("run", bench.mill.run(0, 2, 1, 0), BAD);
        bench.file("a", "#include \"b\"\n");
        bench.file("b", "B");
        bench.due("clear", bench.mill.clear(), 2);
        bench.due("clear", bench.mill.clear(), 0);
        bench.due("numbers come from 0 again", bench.file("b", "q"), 0);
        bench.due("a title that was there", bench.file("a", "#include \"b\"\n"), 1);
        bench.due("run", bench.mill.run(1, 2, 1, 1), 0);
        bench.due("out", bench.out(), "q\n");
        bench.lay("tape");
        bench.mill.clear();
        bench.due("the tape stays", bench.mill.file(4), 0);
    }

    private static void clearingLeavesWhatWasTold() {
        Bench bench = new Bench().about("clear leaves what was told");
        bench.file("a", "#define f(x,y) x\n#define g 1\nf(a,b)");
        bench.due("run", bench.mill.run(0, 2, 1, 0), 0);
        bench.due("clear", bench.mill.clear(), 1);
        bench.due("run", bench.mill.run(0, 2, 1, 0), BAD);
        bench.file("b", "other bytes that lie where those were, #define g(x) 2\n");
        bench.due("out", bench.out(), "a\n");
        bench.due("told(3)", bench.mill.told(3), 1);
        bench.due("told(4)", bench.mill.told(4), 1);
        bench.due("told(5)", bench.mill.told(5), 2);
        bench.due("parameters", bench.parameters("f"), 2);
        bench.due("parameters", bench.parameters("g"), MacroMill.NONE);
        bench = new Bench().about("clear leaves an error that was told");
        bench.file("a", "");
        bench.file("b", "#define h\n\n#error");
        bench.due("run", bench.mill.run(1, 2, 1, 0), 16);
        bench.due("clear", bench.mill.clear(), 2);
        bench.due("told(0)", bench.mill.told(0), 1);
        bench.due("told(1)", bench.mill.told(1), 3);
        bench.due("told(5)", bench.mill.told(5), 1);
        bench.due("parameters", bench.parameters("h"), MacroMill.NONE);
    }
}
