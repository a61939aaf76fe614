import java.lang.reflect.Field;
import java.util.Arrays;

/** An object under test whose calls are counted: nothing is promised about it after the 512th one. */
final class Mill {
    static final int MOST_CALLS = 512;
    private final MacroMill mill = new MacroMill();
    private int calls;

    int calls() {
        return calls;
    }

    MacroMill itself() {
        return mill;
    }

    /**
     * Makes the tape as long as no 512 calls can, by its fields: behind what it has come bytes of one kind,
     * as if they were fed and an end() that was not BAD had come last.
     */
    void stretchTape(int size, char with) {
        try {
            Field tape = fieldOf("tape");
            Field tapeSize = fieldOf("tapeSize");
            Arrays.fill((byte[]) tape.get(mill), tapeSize.getInt(mill), size, (byte) with);
            tapeSize.setInt(mill, size);
            fieldOf("canBeCut").setBoolean(mill, false);
        } catch (ReflectiveOperationException e) {
            throw new IllegalStateException(e);
        }
    }

    private static Field fieldOf(String name) throws NoSuchFieldException {
        Field field = MacroMill.class.getDeclaredField(name);
        field.setAccessible(true);
        return field;
    }

    private MacroMill called() {
        calls++;
        if (calls == MOST_CALLS + 1) {
            Bench.tooManyCalls();
        }
        return mill;
    }

    int feed(int a, int b, int c, int d, int e) {
        return called().feed(a, b, c, d, e);
    }

    int end(int n) {
        return called().end(n);
    }

    int file(int n) {
        return called().file(n);
    }

    int write(int file) {
        return called().write(file);
    }

    int clear() {
        return called().clear();
    }

    int run(int main, int stages, int fuel, int depth) {
        return called().run(main, stages, fuel, depth);
    }

    int told(int what) {
        return called().told(what);
    }

    int size() {
        return called().size();
    }

    long word(int i) {
        return called().word(i);
    }

    int parameters() {
        return called().parameters();
    }

    int astray() {
        return called().astray();
    }
}
