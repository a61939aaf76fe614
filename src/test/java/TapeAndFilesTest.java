/** Promises 1 to 6: a new object, the tape and the files. */
public final class TapeAndFilesTest {
    public static void main(String[] args) {
        newObject();
        Bench.finish("TapeAndFilesTest");
    }

    private static void newObject() {
        Bench bench = new Bench().about("a new object");
        bench.due("clear", bench.mill.clear(), 0);
        bench.due("run", bench.mill.run(0, 1, 1, 0), MacroMill.BAD);
        for (int what = 0; what <= 5; what++) {
            bench.due("told", bench.mill.told(what), 0);
        }
        bench.due("size", bench.mill.size(), 0);
        bench.due("word", bench.mill.word(0), 0);
        bench.due("astray", bench.mill.astray(), 0);
        bench.due("parameters", bench.mill.parameters(), MacroMill.BAD);
        bench.due("end", bench.mill.end(0), MacroMill.BAD);
        bench.due("file", bench.mill.file(1), MacroMill.BAD);
    }
}
