import java.util.ArrayList;
import java.util.List;

/** Values of expressions (32 bits) and conditions (64 bits), against Java's own arithmetic. */
public final class ValuesTest {
    private static final String[] SIGNS = {"||", "&&", "|", "^", "&", "==", "!=", "<", ">", "<=", ">=", "<<", ">>", "+", "-", "*", "/", "%"};
    private static final int[] STRENGTH = {0, 1, 2, 3, 4, 5, 5, 6, 6, 6, 6, 7, 7, 8, 8, 9, 9, 9};
    /** As many texts as one object's calls bring. */
    private static final int AT_ONCE = 100;

    public static void main(String[] args) {
        strengthsOfExpressions();
        strengthsOfConditions();
        divisionsWithoutSign();
        comparisonsWithoutSign();
        neededParts();
        operandsInFront();
        expressionsBehindErrors();
        conditionsBehindErrors();
        Bench.finish("ValuesTest");
    }

    /** What a sign gives of two values; null for a division by 0. */
    private static Long of(String sign, long a, long b, boolean wide) {
        int by = (int) b & (wide ? 63 : 31);
        if ((sign.equals("/") || sign.equals("%")) && b == 0) {
            return null;
        }
        long value;
        switch (sign) {
            case "||": value = a != 0 || b != 0 ? 1 : 0; break;
            case "&&": value = a != 0 && b != 0 ? 1 : 0; break;
            case "|": value = a | b; break;
            case "^": value = a ^ b; break;
            case "&": value = a & b; break;
            case "==": value = a == b ? 1 : 0; break;
            case "!=": value = a != b ? 1 : 0; break;
            case "<": value = a < b ? 1 : 0; break;
            case ">": value = a > b ? 1 : 0; break;
            case "<=": value = a <= b ? 1 : 0; break;
            case ">=": value = a >= b ? 1 : 0; break;
            case "<<": value = a << by; break;
            case ">>": value = a >> by; break;
            case "+": value = a + b; break;
            case "-": value = a - b; break;
            case "*": value = a * b; break;
            case "/": value = a / b; break;
            default: value = a % b; break;
        }
        return wide ? value : (long) (int) value;
    }

    private static Long ofThree(int first, int second, long[] values, boolean wide) {
        if (STRENGTH[first] >= STRENGTH[second]) {
            Long left = of(SIGNS[first], values[0], values[1], wide);
            return left == null ? null : of(SIGNS[second], left, values[2], wide);
        }
        Long right = of(SIGNS[second], values[1], values[2], wide);
        return right == null ? null : of(SIGNS[first], values[0], right, wide);
    }

    private static final long[][] THREES = {{7, 2, 3}, {0, 1, 1}, {1, 0, 1}, {2, 5, 0}, {1, 3, 2}, {0, 0, 2}, {5, 3, 31}, {1, 1, 0}};

    private static List<String[]> threes(boolean wide) {
        List<String[]> all = new ArrayList<>();
        for (int first = 0; first < SIGNS.length; first++) {
            for (int second = 0; second < SIGNS.length; second++) {
                for (long[] values : THREES) {
                    Long want = ofThree(first, second, values, wide);
                    String text = values[0] + SIGNS[first] + values[1] + SIGNS[second] + values[2];
                    if (want != null) {
                        all.add(new String[] {text, Long.toString(want)});
                    }
                }
            }
        }
        return all;
    }

    private static void strengthsOfExpressions() {
        List<String[]> all = threes(false);
        for (int at = 0; at < all.size(); at += AT_ONCE) {
            StringBuilder text = new StringBuilder();
            StringBuilder want = new StringBuilder();
            for (String[] one : all.subList(at, Math.min(at + AT_ONCE, all.size()))) {
                text.append("`").append(one[0]).append("' eval(").append(one[0]).append(")\n");
                want.append(one[0]).append(" ").append(one[1]).append("\n");
            }
            Bench.gives(1, text.toString(), want.toString());
        }
    }

    private static void conditionsHold(List<String> all) {
        for (int at = 0; at < all.size(); at += AT_ONCE) {
            StringBuilder text = new StringBuilder();
            for (int i = at; i < at + AT_ONCE && i < all.size(); i++) {
                text.append("#if !(").append(all.get(i)).append(")\n").append(i - at).append("\n#endif\n");
            }
            Bench.gives(2, text.toString(), "");
        }
    }

    private static void strengthsOfConditions() {
        List<String> all = new ArrayList<>();
        for (String[] one : threes(true)) {
            all.add("(" + one[0] + ")==" + signed(Long.parseLong(one[1])));
        }
        conditionsHold(all);
    }

    private static final long[] EDGES = {0, 1, 2, 3, 7, 10, 1L << 31, 1L << 32, Long.MAX_VALUE - 1, Long.MAX_VALUE, Long.MIN_VALUE, Long.MIN_VALUE + 1, -3, -2, -1};

    private static String unsigned(long value) {
        return Long.toUnsignedString(value) + "u";
    }

    private static void divisionsWithoutSign() {
        List<String> all = new ArrayList<>();
        for (long a : EDGES) {
            for (long b : EDGES) {
                if (b != 0) {
                    all.add(unsigned(a) + "/" + unsigned(b) + "==" + unsigned(Long.divideUnsigned(a, b)));
                    all.add(unsigned(a) + "%" + unsigned(b) + "==" + unsigned(Long.remainderUnsigned(a, b)));
                }
            }
        }
        conditionsHold(all);
    }

    private static String signed(long value) {
        return value == Long.MIN_VALUE ? "(-9223372036854775807-1)" : "(" + value + ")";
    }

    private static void comparisonsWithoutSign() {
        List<String> all = new ArrayList<>();
        for (long a : EDGES) {
            for (long b : EDGES) {
                int without = Long.compareUnsigned(a, b);
                int with = Long.compare(a, b);
                for (String pair : new String[] {unsigned(a) + "<" + unsigned(b), signed(a) + "<" + unsigned(b), unsigned(a) + "<" + signed(b)}) {
                    all.add("(" + pair + ")==" + (without < 0 ? 1 : 0));
                }
                all.add("(" + signed(a) + "<" + signed(b) + ")==" + (with < 0 ? 1 : 0));
                all.add("(" + signed(a) + ">=" + unsigned(b) + ")==" + (without >= 0 ? 1 : 0));
                all.add("(" + signed(a) + "==" + unsigned(b) + ")==" + (a == b ? 1 : 0));
            }
        }
        conditionsHold(all);
    }

    /** What is not needed makes nothing behind it unneeded. */
    private static void neededParts() {
        for (String text : new String[] {"0 && 1 || 1/0", "(0 && 1) + 1/0", "(1 || 1) + 1/0", "(1 ? 1 : 2) + 1/0", "(0 ? 1 : 2) + 1/0", "1 || 1 ? 1/0 : 1", "0 && 1 ? 1 : 1/0",
            "(1 || 0) && 1/0", "(0 && 0) || 1/0", "(1 ? 0 : 1) || 1/0", "0 || (0 ? 1 : 1/0)", "1 && (1 ? 1/0 : 1)", "(0 ? 1/0 : 0) || 1/0", "(1 || 1/0) && 1/0", "1 ? (0 && 1/0) + 1/0 : 1",
            "0 ? 1 : (1 || 1/0) + 1/0", "0 ? 1/0 : 1/0", "1 ? 1/0 : 1/0", "(0 && 1/0) == 1/0"}) {
            Bench.fails(2, "#if " + text + "\n#endif", 12, 1);
        }
        List<String> all = new ArrayList<>();
        for (String text : new String[] {"1 || (0 ? 1 : 1/0)", "1 || (1 ? 1/0 : 1)", "!(0 && (0 ? 1 : 1/0))", "1 || (0 || 1/0)", "1 || (1 && 1/0)", "1 ? 1 : (0 ? 1 : 1/0)", "1 ? 1 : 0 || 1/0",
            "0 ? 0 || 1/0 : 1", "0 ? (0 ? 1 : 1/0) : 1", "0 ? 1 ? 1/0 : 1/0 : 1", "1 || 1 && 1/0", "1 || 0 ? 1 : 1/0", "0 && 1/0 || 1", "0 && 1/0 ? 1/0 : 1", "1 ? 2 : 0 ? 1/0 : 1/0"}) {
            all.add(text);
        }
        conditionsHold(all);
    }

    private static void operandsInFront() {
        List<String> all = new ArrayList<>();
        for (String text : new String[] {"-2*3==-6", "!0*5==5", "~0+1==0", "!1==0", "-1+1==0", "!2-1==-1", "-(1+2)*2==-6", "!-1==0", "~-1==0", "-~5==6", "+-+1==-1", "1- -1==2", "1-+1==0", "2*-3==-6",
            "!!7==1", "-!0==-1", "~!0==-2", "-1<<1==-2", "-8>>1==-4", "!0&&!0", "-1?1:0", "!0?1:0", "1?-1:0"}) {
            all.add(text);
        }
        conditionsHold(all);
        Bench.gives(1, "eval(-2*3) eval(!0*5) eval(~0+1) eval(!2-1) eval(-(1+2)*2) eval(-~5) eval(+-+1) eval(-!0) eval(~!0) eval(-1<<1) eval(-8>>1) eval(!0&&!0)",
                "-6 5 0 -1 -6 6 -1 -1 -2 -2 -4 1");
    }

    /** An expression that was none leaves nothing to the next one. */
    private static void expressionsBehindErrors() {
        Bench bench = new Bench().about("expressions behind errors");
        String[] bad = {"", "(", "1+", "1)", "((((1", "-----", "1 1", "1/0", "1/0+", "1*(2-", "(".repeat(31), "1000000000", "&&", "1&&(", "0||(-(", "x"};
        bench.file("fine", "eval(1+2*3) eval(((1))) eval(0&&1) eval(7/2) eval(" + "(".repeat(30) + "1" + ")".repeat(30) + ")");
        for (int i = 0; i < bad.length; i++) {
            bench.file("b" + i, "eval(`" + bad[i] + "')");
        }
        for (int i = 0; i < bad.length; i++) {
            bench.due("run " + bad[i], bench.mill.run(i + 1, 1, 1000, 0), bad[i].equals("1/0") ? 39 : 38);
            bench.due("run", bench.mill.run(0, 1, 1000, 0), 0);
            bench.due("out", bench.out(), "7 1 0 3 1");
        }
    }

    private static void conditionsBehindErrors() {
        Bench bench = new Bench().about("conditions behind errors");
        String[] bad = {"", "(", "1+", "1)", "((((1", "- - -", "1 1", "1/0", "1/0+", "1*(2-", "(".repeat(61), "0 && (1", "1 || (1", "1 ? (", "0 ? (1", "0 ? 1 : (", "1 ? 2 : (", "08"};
        bench.file("fine", "#if 1+2*3 == 7 && 1\n#if 7/2 == 3\n#if 0 || " + "(".repeat(60) + "1" + ")".repeat(60) + "\nx\n#endif\n#endif\n#endif");
        bench.file("divided", "#if 1/0\n#endif");
        for (int i = 0; i < bad.length; i++) {
            bench.file("b" + i, "#if " + bad[i]);
        }
        for (int i = 0; i < bad.length; i++) {
            bench.due("run " + bad[i], bench.mill.run(i + 2, 2, 1, 0), bad[i].equals("1/0") ? 12 : 11);
            bench.due("run", bench.mill.run(0, 2, 1, 0), 0);
            bench.due("out", bench.out(), "x\n");
            bench.due("run " + bad[i], bench.mill.run(i + 2, 2, 1, 0), bad[i].equals("1/0") ? 12 : 11);
            bench.due("run", bench.mill.run(1, 2, 1, 0), 12);
        }
    }
}
