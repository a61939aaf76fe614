import java.nio.charset.StandardCharsets;

/** What the tests share: an object under test, texts fed to it, and a count of wrong answers. */
final class Bench {
    MacroMill mill = new MacroMill();
    private static int wrong = 0;
    private static int looked = 0;
    private String about = "";

    Bench about(String text) {
        about = text;
        return this;
    }

    static void finish(String name) {
        System.out.println(name + ": " + looked + " answers, " + wrong + " wrong");
        System.exit(wrong == 0 ? 0 : 1);
    }

    void due(String what, long got, long want) {
        looked++;
        if (got != want) {
            wrong++;
            System.out.println(about + ": " + what + " answered " + got + ", due is " + want);
        }
    }

    void due(String what, String got, String want) {
        looked++;
        if (!got.equals(want)) {
            wrong++;
            System.out.println(about + ": " + what + " gave\n<" + got + ">\n, due is\n<" + want + ">");
        }
    }

    /** Lays a text on the tape: how many bytes it has then. */
    int lay(String text) {
        byte[] bytes = text.getBytes(StandardCharsets.ISO_8859_1);
        int size = 0;
        for (int at = 0; at < bytes.length; at += 20) {
            int[] numbers = new int[5];
            for (int i = 0; i < 20; i++) {
                int b = at + i < bytes.length ? bytes[at + i] & 255 : 0;
                numbers[i / 4] = numbers[i / 4] << 8 | b;
            }
            size = mill.feed(numbers[0], numbers[1], numbers[2], numbers[3], numbers[4]);
            if (bytes.length - at < 20) {
                size = mill.end(bytes.length - at);
            }
        }
        return size;
    }

    int file(String title, String text) {
        int piece = 16000;
        String first = text.substring(0, Math.min(piece, text.length()));
        lay(title + first);
        int file = mill.file(title.length());
        for (int at = piece; at < text.length(); at += piece) {
            lay(text.substring(at, Math.min(at + piece, text.length())));
            mill.write(file);
        }
        return file;
    }

    int parameters(String name) {
        lay(name);
        return mill.parameters();
    }

    String out() {
        StringBuilder text = new StringBuilder();
        for (int i = 0; i < mill.size(); i++) {
            text.append((char) (mill.word(i / 8) >>> i % 8 * 8 & 255));
        }
        return text.toString();
    }

    /** A run of a single file on a new object that ends without an error. */
    static Bench gives(int stages, String text, String want) {
        Bench bench = new Bench().about(text);
        bench.file("m", text);
        bench.due("run", bench.mill.run(0, stages, 400000, 0), 0);
        bench.due("out", bench.out(), want);
        bench.due("size", bench.mill.size(), want.length());
        bench.due("told(0)", bench.mill.told(0), 0);
        bench.due("told(1)", bench.mill.told(1), 0);
        bench.due("astray", bench.mill.astray(), 0);
        return bench;
    }

    /** A run of a single file on a new object that ends with an error. */
    static Bench fails(int stages, String text, int error, int line) {
        Bench bench = new Bench().about(text.length() > 300 ? text.substring(0, 300) + " .." : text);
        bench.file("m", text);
        bench.due("run", bench.mill.run(0, stages, 400000, 0), error);
        bench.due("told(0)", bench.mill.told(0), 0);
        bench.due("told(1)", bench.mill.told(1), line);
        bench.due("size", bench.mill.size(), 0);
        bench.due("word(0)", bench.mill.word(0), 0);
        bench.due("astray", bench.mill.astray(), 0);
        return bench;
    }
}
