import java.util.function.Function;

/** Programs by chance: the class and Model, which was written by a second reading of the document, tell the same. */
public final class ModelTest {
    private static final int EACH = 1200;
    private static final String[] NAMES = {"a", "b", "f", "h", "E", "x", "__LINE__"};
    private static final int CALLS_BESIDE_BYTES = 60;
    private static Bench bench = new Bench();

    public static void main(String[] args) {
        compare(2, Programs::bytes);
        compare(2, Programs::calls);
        compare(2, Programs::directives);
        compare(2, Programs::conditions);
        compare(1, Programs::first);
        compare(3, Programs::first);
        compare(3, Programs::both);
        Bench.finish("ModelTest");
    }

    private static void compare(int stages, Function<Programs, String> kind) {
        for (int seed = 0; seed < EACH; seed++) {
            Programs programs = new Programs(seed);
            Model model = new Model();
            model.add("m", kind.apply(programs));
            model.add("b", programs.pick("a f(1)\n", "__LINE__ __FILE__", programs.directives(), "#include \"m\"\n"));
            model.add("c d", programs.pick("", "f\n(2)", "#ifdef a\n#undef a\n#endif", "' L'x' E\n"));
            int fuel = programs.rarely() ? 1 + programs.below(500) : 20000;
            int depth = programs.rarely() ? programs.below(3) : 20;
            model.run(0, stages, fuel, depth);
            run(model, stages, fuel, depth);
        }
    }

    /** An object is used again as long as it has calls left: no run may leave anything to the next one. */
    private static void run(Model model, int stages, int fuel, int depth) {
        int bytes = String.join("", model.texts).length() + model.out.length();
        if (bench.mill.calls() + bytes / 8 + CALLS_BESIDE_BYTES > Mill.MOST_CALLS) {
            bench = new Bench();
        }
        bench.about("stages " + stages + ", " + model.texts);
        bench.mill.clear();
        for (int i = 0; i < model.titles.size(); i++) {
            bench.due("file", bench.file(model.titles.get(i), model.texts.get(i)), i);
        }
        bench.due("run", bench.mill.run(0, stages, fuel, depth), model.error);
        int[] told = {model.file, model.line, model.taken, model.putOut, model.substituted, model.macros.size()};
        for (int what = 0; what < told.length; what++) {
            bench.due("told(" + what + ")", bench.mill.told(what), told[what]);
        }
        bench.due("astray", bench.mill.astray(), 0);
        for (String name : NAMES) {
            bench.due("parameters of " + name, bench.parameters(name), model.parameters(name));
        }
        bench.dueOut(model.out);
    }
}
