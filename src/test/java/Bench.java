import java.nio.charset.StandardCharsets;

/** What the tests share: an object under test, texts fed to it, and a count of wrong answers. */
final class Bench {
    /** Calls that are kept for what is asked behind the out. */
    private static final int KEPT_CALLS = 24;
    private static int wrong = 0;
    private static int looked = 0;
    final Mill mill = new Mill();
    private String about = "";

    Bench about(String text) {
        String beginning = text.length() > 300 ? text.substring(0, 300) + " .." : text;
        about = beginning.replace("\n", "\\n");
        return this;
    }

    static void finish(String name) {
        System.out.println(name + ": " + looked + " answers, " + wrong + " wrong");
        System.exit(wrong == 0 ? 0 : 1);
    }

    /** A test may not go where the document promises nothing. */
    static void tooManyCalls() {
        wrong++;
        System.out.println("an object was used for more than " + Mill.MOST_CALLS + " calls:");
        StackWalker.getInstance().forEach(frame -> System.out.println("    " + frame));
    }

    void due(String what, long got, long want) {
        looked++;
        if (got != want) {
            wrong++;
            System.out.println(about + ": " + what + " answered " + got + ", due is " + want);
        }
    }

    void due(String what, String got, String want) {
        looked++;
        if (!got.equals(want)) {
            wrong++;
            System.out.println(about + ": " + what + " gave\n<" + got + ">\n, due is\n<" + want + ">");
        }
    }

    /** Lays a text on the tape: how many bytes it has then. */
    int lay(String text) {
        byte[] bytes = text.getBytes(StandardCharsets.ISO_8859_1);
        int size = 0;
        for (int at = 0; at < bytes.length; at += 20) {
            int[] numbers = new int[5];
            for (int i = 0; i < 20; i++) {
                int b = at + i < bytes.length ? bytes[at + i] & 255 : 0;
                numbers[i / 4] = numbers[i / 4] << 8 | b;
            }
            size = mill.feed(numbers[0], numbers[1], numbers[2], numbers[3], numbers[4]);
            if (bytes.length - at < 20) {
                size = mill.end(bytes.length - at);
            }
        }
        return size;
    }

    int file(String title, String text) {
        lay(title + text);
        return mill.file(title.length());
    }

    int parameters(String name) {
        lay(name);
        return mill.parameters();
    }

    String out() {
        int size = mill.size();
        StringBuilder text = new StringBuilder();
        for (int i = 0; i < size; i += 8) {
            long word = mill.word(i / 8);
            for (int k = 0; k < 8 && i + k < size; k++) {
                text.append((char) (word >>> 8 * k & 255));
            }
        }
        return text.toString();
    }

    /** The out; of a long one its size, and its beginning and end as far as there are calls left. */
    void dueOut(String want) {
        int left = Mill.MOST_CALLS - mill.calls() - KEPT_CALLS;
        int words = (want.length() + 7) / 8;
        if (words < left) {
            due("out", out(), want);
            return;
        }
        due("size", mill.size(), want.length());
        for (int i = 0; i < words; i++) {
            if (i < left / 2 || i >= words - left / 2) {
                due("word(" + i + ")", mill.word(i), wordOf(want, i));
            }
        }
    }

    private static long wordOf(String text, int i) {
        long word = 0;
        for (int k = Math.min(8 * i + 8, text.length()) - 1; k >= 8 * i; k--) {
            word = word << 8 | text.charAt(k);
        }
        return word;
    }

    /** The latest run ended without an error. */
    private void dueFine(int error) {
        due("run", error, 0);
        due("told(0)", mill.told(0), 0);
        due("told(1)", mill.told(1), 0);
        due("astray", mill.astray(), 0);
    }

    /** Runs the first file alone, and before that in all other ways: no run may leave anything to the next one. */
    private int runBehindOthers(int stages) {
        mill.run(0, stages == 1 ? 3 : 1, 100000, 0);
        mill.run(0, stages, 400000, 20);
        mill.run(0, stages == 2 ? 3 : 2, 399, 1);
        return mill.run(0, stages, 400000, 0);
    }

    /** The latest run ended with an error: it tells that, and its out is empty. */
    void dueError(int error, int wantError, int file, int line) {
        due("run", error, wantError);
        due("told(0)", mill.told(0), file);
        due("told(1)", mill.told(1), line);
        due("size", mill.size(), 0);
        due("word(0)", mill.word(0), 0);
        due("astray", mill.astray(), 0);
    }

    /** A run of a single file on a new object that ends without an error. */
    static Bench gives(int stages, String text, String want) {
        Bench bench = new Bench().about(text);
        bench.file("m", text);
        bench.dueFine(bench.runBehindOthers(stages));
        bench.dueOut(want);
        return bench;
    }

    /** A run of a single file on a new object that ends without an error, whatever comes out. */
    static Bench fine(int stages, String text) {
        Bench bench = new Bench().about(text);
        bench.file("m", text);
        bench.dueFine(bench.runBehindOthers(stages));
        return bench;
    }

    /** A run of a single file on a new object that ends with an error. */
    static Bench fails(int stages, String text, int error, int line) {
        Bench bench = new Bench().about(text);
        bench.file("m", text);
        bench.dueError(bench.runBehindOthers(stages), error, 0, line);
        return bench;
    }
}
