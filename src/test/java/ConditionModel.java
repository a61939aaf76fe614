import java.math.BigInteger;
import java.util.List;
import java.util.regex.Matcher;
import java.util.regex.Pattern;

/** A CONDITION of the second processor, its tokens being replaced, read from the weakest operators down. */
final class ConditionModel {
    private static final int MOST_NESTING = 60;
    private static final Pattern NUMBER = Pattern.compile(
            "(0[xX][0-9a-fA-F]+|0[0-7]*|[1-9][0-9]*)([uU]?(?:l|L|ll|LL)?|(?:l|L|ll|LL)[uU])");

    private record Value(long bits, boolean unsigned) {
    }

    private final List<SecondModel.Token> tokens;
    private final int line;
    private int at;
    private boolean dividedByZero;

    ConditionModel(List<SecondModel.Token> tokens, int line) {
        this.tokens = tokens;
        this.line = line;
    }

    boolean holds() {
        Value value = condition(0, true);
        if (at < tokens.size()) {
            throw malformed();
        }
        if (dividedByZero) {
            throw new Model.Stop(12, line);
        }
        return value.bits != 0;
    }

    private Model.Stop malformed() {
        return new Model.Stop(11, line);
    }

    private String sign() {
        return at < tokens.size() && tokens.get(at).kind == SecondModel.Kind.SIGN ? tokens.get(at).text : "";
    }

    private void takeSign(String sign) {
        if (!sign().equals(sign)) {
            throw malformed();
        }
        at++;
    }

    private Value condition(int nesting, boolean needed) {
        Value asked = operation(0, nesting, needed);
        if (!sign().equals("?")) {
            return asked;
        }
        if (nesting == MOST_NESTING) {
            throw malformed();
        }
        takeSign("?");
        Value yes = condition(nesting + 1, needed && asked.bits != 0);
        takeSign(":");
        Value no = condition(nesting + 1, needed && asked.bits == 0);
        return new Value(asked.bits != 0 ? yes.bits : no.bits, yes.unsigned || no.unsigned);
    }

    private Value operation(int strength, int nesting, boolean needed) {
        if (strength == ExpressionModel.OPERATORS.size()) {
            return operand(nesting, needed);
        }
        Value value = operation(strength + 1, nesting, needed);
        String sign = sign();
        while (ExpressionModel.OPERATORS.get(strength).contains(sign)) {
            at++;
            boolean decided = sign.equals("||") && value.bits != 0 || sign.equals("&&") && value.bits == 0;
            value = reckon(value, sign, operation(strength + 1, nesting, needed && !decided), needed);
            sign = sign();
        }
        return value;
    }

    private static Value truth(boolean holds) {
        return new Value(holds ? 1 : 0, false);
    }

    private Value reckon(Value left, String sign, Value right, boolean needed) {
        long a = left.bits;
        long b = right.bits;
        boolean unsigned = left.unsigned || right.unsigned;
        int order = unsigned ? Long.compareUnsigned(a, b) : Long.compare(a, b);
        switch (sign) {
            case "||": return truth(a != 0 || b != 0);
            case "&&": return truth(a != 0 && b != 0);
            case "==": return truth(order == 0);
            case "!=": return truth(order != 0);
            case "<": return truth(order < 0);
            case ">": return truth(order > 0);
            case "<=": return truth(order <= 0);
            case ">=": return truth(order >= 0);
            case "|": return new Value(a | b, unsigned);
            case "^": return new Value(a ^ b, unsigned);
            case "&": return new Value(a & b, unsigned);
            case "<<": return new Value(a << b, left.unsigned);
            case ">>": return new Value(left.unsigned ? a >>> b : a >> b, left.unsigned);
            case "+": return new Value(a + b, unsigned);
            case "-": return new Value(a - b, unsigned);
            case "*": return new Value(a * b, unsigned);
            default:
                dividedByZero = dividedByZero || needed && b == 0;
                return new Value(b == 0 ? 0 : divide(a, b, unsigned, sign.equals("/")), unsigned);
        }
    }

    private static long divide(long a, long b, boolean unsigned, boolean whole) {
        if (unsigned) {
            return whole ? Long.divideUnsigned(a, b) : Long.remainderUnsigned(a, b);
        }
        return whole ? a / b : a % b;
    }

    private Value operand(int nesting, boolean needed) {
        String sign = sign();
        if (at == tokens.size() || nesting == MOST_NESTING && !sign.isEmpty()) {
            throw malformed();
        }
        SecondModel.Token token = tokens.get(at);
        at++;
        switch (token.kind) {
            case NAME: return new Value(0, false);
            case NUMBER: return number(token.text);
            case CHARACTER: return character(token.text);
            case TEXT: throw malformed();
            default: break;
        }
        if (sign.equals("(")) {
            Value value = condition(nesting + 1, needed);
            takeSign(")");
            return value;
        }
        if (!List.of("+", "-", "~", "!").contains(sign)) {
            throw malformed();
        }
        Value value = operand(nesting + 1, needed);
        switch (sign) {
            case "-": return new Value(-value.bits, value.unsigned);
            case "~": return new Value(~value.bits, value.unsigned);
            case "!": return truth(value.bits == 0);
            default: return value;
        }
    }

    private Value number(String text) {
        Matcher matcher = NUMBER.matcher(text);
        if (!matcher.matches()) {
            throw malformed();
        }
        String digits = matcher.group(1);
        boolean isHex = digits.length() > 1 && (digits.charAt(1) == 'x' || digits.charAt(1) == 'X');
        int base = isHex ? 16 : digits.startsWith("0") ? 8 : 10;
        int bits = new BigInteger(isHex ? digits.substring(2) : digits, base).bitLength();
        boolean hasU = matcher.group(2).contains("u") || matcher.group(2).contains("U");
        if (bits > 64 || bits == 64 && base == 10 && !hasU) {
            throw malformed();
        }
        return new Value(new BigInteger(isHex ? digits.substring(2) : digits, base).longValue(), hasU || bits == 64);
    }

    private Value character(String text) {
        String between = text.substring(1, text.length() - 1);
        if (text.startsWith("L") || between.isEmpty() || between.length() > 2) {
            throw malformed();
        }
        if (between.length() == 1) {
            return new Value(between.charAt(0), false);
        }
        int escape = "ntrabfv0\\'\"?".indexOf(between.charAt(1));
        if (between.charAt(0) != '\\' || escape < 0) {
            throw malformed();
        }
        return new Value(new int[] {10, 9, 13, 7, 8, 12, 11, 0, 92, 39, 34, 63}[escape], false);
    }
}
