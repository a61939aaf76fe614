import java.util.List;

/** An EXPRESSION of the first processor, read from the weakest operators down. */
final class ExpressionModel {
    /** By rising strength. */
    static final List<List<String>> OPERATORS = List.of(List.of("||"), List.of("&&"), List.of("|"), List.of("^"), List.of("&"),
            List.of("==", "!="), List.of("<", ">", "<=", ">="), List.of("<<", ">>"), List.of("+", "-"), List.of("*", "/", "%"));
    private static final List<String> OF_TWO_SIGNS = List.of("||", "&&", "==", "!=", "<=", ">=", "<<", ">>");
    private static final int MOST_NESTING = 30;

    private final String text;
    private final int line;
    private int at;
    private boolean dividedByZero;

    ExpressionModel(String text, int line) {
        this.text = text;
        this.line = line;
    }

    int value() {
        int value = operation(0, 0);
        if (!sign().isEmpty()) {
            throw malformed();
        }
        if (dividedByZero) {
            throw new Model.Stop(39, line);
        }
        return value;
    }

    private Model.Stop malformed() {
        return new Model.Stop(38, line);
    }

    private String sign() {
        while (at < text.length() && (Model.isBlank(text.charAt(at)) || text.charAt(at) == '\n')) {
            at++;
        }
        for (String two : OF_TWO_SIGNS) {
            if (text.startsWith(two, at)) {
                return two;
            }
        }
        return text.substring(at, Math.min(at + 1, text.length()));
    }

    private int operation(int strength, int nesting) {
        if (strength == OPERATORS.size()) {
            return operand(nesting);
        }
        int value = operation(strength + 1, nesting);
        String sign = sign();
        while (OPERATORS.get(strength).contains(sign)) {
            at += sign.length();
            value = reckon(value, sign, operation(strength + 1, nesting));
            sign = sign();
        }
        return value;
    }

    private int reckon(int a, String sign, int b) {
        switch (sign) {
            case "||": return a != 0 || b != 0 ? 1 : 0;
            case "&&": return a != 0 && b != 0 ? 1 : 0;
            case "|": return a | b;
            case "^": return a ^ b;
            case "&": return a & b;
            case "==": return a == b ? 1 : 0;
            case "!=": return a != b ? 1 : 0;
            case "<": return a < b ? 1 : 0;
            case ">": return a > b ? 1 : 0;
            case "<=": return a <= b ? 1 : 0;
            case ">=": return a >= b ? 1 : 0;
            case "<<": return a << b;
            case ">>": return a >> b;
            case "+": return a + b;
            case "-": return a - b;
            case "*": return a * b;
            default:
                dividedByZero = dividedByZero || b == 0;
                return b == 0 ? 0 : sign.equals("/") ? a / b : a % b;
        }
    }

    private int operand(int nesting) {
        String sign = sign();
        if (sign.length() != 1 || nesting == MOST_NESTING && "+-~!(".contains(sign)) {
            throw malformed();
        }
        if (Model.isDigit(sign.charAt(0))) {
            return number();
        }
        at++;
        switch (sign) {
            case "+": return operand(nesting + 1);
            case "-": return -operand(nesting + 1);
            case "~": return ~operand(nesting + 1);
            case "!": return operand(nesting + 1) == 0 ? 1 : 0;
            case "(":
                int value = operation(0, nesting + 1);
                if (!sign().equals(")")) {
                    throw malformed();
                }
                at++;
                return value;
            default: throw malformed();
        }
    }

    private int number() {
        int from = at;
        while (at < text.length() && Model.isDigit(text.charAt(at))) {
            at++;
        }
        if (at - from > 9) {
            throw malformed();
        }
        return Integer.parseInt(text.substring(from, at));
    }
}
