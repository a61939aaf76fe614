import java.util.ArrayList;
import java.util.List;
import java.util.TreeMap;

/** The document read a second time, as plainly as the Java library allows: what a run is to tell. */
final class Model {
    /** An error ends a run. */
    static final class Stop extends RuntimeException {
        private static final long serialVersionUID = 1;
        final int error;
        final int line;

        Stop(int error, int line) {
            super(null, null, false, false);
            this.error = error;
            this.line = line;
        }
    }

    final List<String> titles = new ArrayList<>();
    final List<String> texts = new ArrayList<>();
    int error;
    int file;
    int line;
    int taken;
    int putOut;
    int substituted;
    String out = "";
    TreeMap<String, SecondModel.Macro> macros = new TreeMap<>();
    int fileAtHand;

    void add(String title, String text) {
        titles.add(title);
        texts.add(text);
    }

    int run(int main, int stages, int fuel, int depth) {
        error = 0;
        file = 0;
        line = 0;
        taken = 0;
        putOut = 0;
        substituted = 0;
        out = "";
        macros = new TreeMap<>();
        fileAtHand = main;
        try {
            String text = texts.get(main);
            if (stages != 2) {
                text = new FirstModel(this, text, fuel).process();
            }
            out = stages == 1 ? text : new SecondModel(this, main, text, depth).process();
        } catch (Stop stop) {
            error = stop.error;
            file = fileAtHand;
            line = stop.line;
        }
        return error;
    }

    /** As parameters() answers. */
    int parameters(String name) {
        SecondModel.Macro macro = macros.get(name);
        if (macro == null) {
            return MacroMill.BAD;
        }
        return macro.parameters == null ? MacroMill.NONE : macro.parameters.size();
    }

    static boolean isLetter(char c) {
        return c >= 'A' && c <= 'Z' || c >= 'a' && c <= 'z' || c == '_';
    }

    static boolean isDigit(char c) {
        return c >= '0' && c <= '9';
    }

    static boolean isBlank(char c) {
        return c == 32 || c == 9 || c == 11 || c == 12 || c == 13;
    }

    static boolean isName(String text) {
        return text.chars().allMatch(c -> isLetter((char) c) || isDigit((char) c)) && !text.isEmpty() && isLetter(text.charAt(0));
    }
}
