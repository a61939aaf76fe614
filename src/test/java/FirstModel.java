import java.util.ArrayList;
import java.util.HashMap;
import java.util.List;
import java.util.Map;
import java.util.Set;

/** The first processor of Model: a call reads its arguments by calling itself. */
final class FirstModel {
    private enum Kind { END, QUOTED, COMMENT, NAME, SINGLE }

    private static final Set<String> BEFORE_PARENTHESIS = Set.of("define", "pushdef", "undefine", "popdef", "ifdef", "ifelse",
            "eval", "incr", "decr", "len", "index", "substr", "shift");
    private static final List<String> ALONE_TOO = List.of("dnl", "divert", "undivert", "changequote");
    private static final int NOWHERE = -1;

    /** A built-in meaning has no text, a defined one no work. */
    private record Meaning(String work, String text) {
    }

    private final Model model;
    private String input;
    private int at;
    private int mainLeft;
    private int line = 1;
    private int fuel;
    private Kind kind;
    private String opening = "`";
    private String closing = "'";
    private final Map<String, List<Meaning>> meanings = new HashMap<>();
    private final StringBuilder[] diversions = new StringBuilder[10];
    private int current;
    private int openCalls;
    private int openBytes;
    private int openArguments;

    FirstModel(Model model, String text, int fuel) {
        this.model = model;
        this.fuel = fuel;
        input = text;
        mainLeft = text.length();
        BEFORE_PARENTHESIS.forEach(this::addBuiltIn);
        ALONE_TOO.forEach(this::addBuiltIn);
        for (int i = 0; i < diversions.length; i++) {
            diversions[i] = new StringBuilder();
        }
    }

    private void addBuiltIn(String name) {
        meanings.put(name, new ArrayList<>(List.of(new Meaning(name, null))));
    }

    String process() {
        String token = nextToken();
        while (kind != Kind.END) {
            if (kind == Kind.NAME && isCalled(token)) {
                call(token);
            } else {
                putOut(token);
            }
            token = nextToken();
        }
        return String.join("", diversions);
    }

    private Model.Stop stop(int error) {
        return new Model.Stop(error, line);
    }

    private char take() {
        if (fuel == 0) {
            throw stop(31);
        }
        fuel--;
        model.taken++;
        char c = next();
        if (left() == mainLeft) {
            mainLeft--;
            line += c == '\n' ? 1 : 0;
        }
        at++;
        return c;
    }

    private int left() {
        return input.length() - at;
    }

    private char next() {
        return input.charAt(at);
    }

    private boolean comes(String text) {
        return input.startsWith(text, at);
    }

    private String takeAll(String text) {
        for (int i = 0; i < text.length(); i++) {
            take();
        }
        return text;
    }

    private String nextToken() {
        if (left() == 0) {
            kind = Kind.END;
            return "";
        }
        if (comes(opening)) {
            return quotedToken();
        }
        char first = next();
        if (first == '#') {
            kind = Kind.COMMENT;
            return takeLine();
        }
        StringBuilder text = new StringBuilder().append(take());
        kind = Model.isLetter(first) ? Kind.NAME : Kind.SINGLE;
        while (kind == Kind.NAME && left() > 0 && (Model.isLetter(next()) || Model.isDigit(next()))) {
            text.append(take());
        }
        return text.toString();
    }

    private String takeLine() {
        StringBuilder text = new StringBuilder();
        while (left() > 0 && (text.length() == 0 || text.charAt(text.length() - 1) != '\n')) {
            text.append(take());
        }
        return text.toString();
    }

    private String quotedToken() {
        kind = Kind.QUOTED;
        int lineOfOpening = line;
        StringBuilder text = new StringBuilder();
        takeAll(opening);
        int depth = 1;
        while (true) {
            if (left() == 0) {
                throw new Model.Stop(32, lineOfOpening);
            }
            if (comes(closing)) {
                takeAll(closing);
                depth--;
                if (depth == 0) {
                    return text.toString();
                }
                text.append(closing);
            } else if (comes(opening)) {
                text.append(takeAll(opening));
                depth++;
            } else {
                text.append(take());
            }
        }
    }

    private Meaning top(String name) {
        List<Meaning> pile = meanings.get(name);
        return pile == null ? null : pile.get(pile.size() - 1);
    }

    private boolean isCalled(String name) {
        Meaning top = top(name);
        return top != null && (top.work == null || !BEFORE_PARENTHESIS.contains(top.work) || comes("("));
    }

    private void putOut(String text) {
        if (current == NOWHERE) {
            return;
        }
        int sum = text.length();
        for (StringBuilder diversion : diversions) {
            sum += diversion.length();
        }
        if (sum > 32768) {
            throw stop(40);
        }
        diversions[current].append(text);
    }

    private void call(String name) {
        if (openCalls == 50) {
            throw stop(34);
        }
        openCalls++;
        int bytesBefore = openBytes;
        int argumentsBefore = openArguments;
        countBytes(name.length());
        List<String> arguments = comes("(") ? readArguments() : List.of();
        Meaning top = top(name);
        String given = top == null ? "" : top.work == null ? fill(top.text, name, arguments) : work(top.work, arguments);
        openCalls--;
        openBytes = bytesBefore;
        openArguments = argumentsBefore;
        if (given.length() + left() > 32768) {
            throw stop(40);
        }
        input = given + input.substring(at);
        at = 0;
    }

    private void countBytes(int more) {
        openBytes += more;
        if (openBytes > 16384) {
            throw stop(40);
        }
    }

    private StringBuilder beginArgument() {
        openArguments++;
        if (openArguments > 8192) {
            throw stop(40);
        }
        return new StringBuilder();
    }

    private List<String> readArguments() {
        List<String> arguments = new ArrayList<>();
        take();
        StringBuilder argument = beginArgument();
        boolean begun = false;
        int nesting = 0;
        while (true) {
            String token = nextToken();
            String sign = kind == Kind.SINGLE ? token : "";
            if (kind == Kind.END) {
                throw stop(33);
            } else if (sign.equals(")") && nesting == 0) {
                arguments.add(argument.toString());
                return arguments;
            } else if (sign.equals(",") && nesting == 0) {
                arguments.add(argument.toString());
                argument = beginArgument();
                begun = false;
            } else if (begun || sign.isEmpty() || !Model.isBlank(sign.charAt(0)) && !sign.equals("\n")) {
                begun = true;
                if (kind == Kind.NAME && isCalled(token)) {
                    call(token);
                } else {
                    nesting += sign.equals("(") ? 1 : sign.equals(")") ? -1 : 0;
                    countBytes(token.length());
                    argument.append(token);
                }
            }
        }
    }

    private static String at(List<String> arguments, int i) {
        return i < arguments.size() ? arguments.get(i) : "";
    }

    private String inQuotes(List<String> arguments) {
        List<String> quoted = new ArrayList<>();
        arguments.forEach(argument -> quoted.add(opening + argument + closing));
        return String.join(",", quoted);
    }

    private String fill(String text, String name, List<String> arguments) {
        StringBuilder given = new StringBuilder();
        for (int i = 0; i < text.length() && given.length() <= 32768; i++) {
            char mark = text.charAt(i) == '$' && i + 1 < text.length() ? text.charAt(i + 1) : ' ';
            String put = mark == '0' ? name
                    : Model.isDigit(mark) ? at(arguments, mark - '1')
                    : mark == '#' ? String.valueOf(arguments.size())
                    : mark == '*' ? String.join(",", arguments)
                    : mark == '@' ? inQuotes(arguments) : null;
            given.append(put == null ? text.substring(i, i + 1) : put);
            i += put == null ? 0 : 1;
        }
        return given.toString();
    }

    private int number(List<String> arguments, int i) {
        String text = at(arguments, i);
        String digits = text.startsWith("-") ? text.substring(1) : text;
        if (text.isEmpty()) {
            return 0;
        }
        if (digits.isEmpty() || digits.length() > 9 || !digits.chars().allMatch(c -> Model.isDigit((char) c))) {
            throw stop(36);
        }
        return Integer.parseInt(text);
    }

    private String work(String work, List<String> arguments) {
        String first = at(arguments, 0);
        switch (work) {
            case "define":
            case "pushdef":
                define(first, at(arguments, 1), work.equals("define"));
                return "";
            case "undefine":
                arguments.forEach(meanings::remove);
                return "";
            case "popdef":
                arguments.forEach(this::pop);
                return "";
            case "ifdef":
                return at(arguments, meanings.containsKey(first) ? 1 : 2);
            case "ifelse":
                return choose(arguments);
            case "eval":
                return String.valueOf(new ExpressionModel(first, line).value());
            case "incr":
                return String.valueOf(number(arguments, 0) + 1);
            case "decr":
                return String.valueOf(number(arguments, 0) - 1);
            case "len":
                return String.valueOf(first.length());
            case "index":
                return String.valueOf(first.indexOf(at(arguments, 1)));
            case "substr":
                return part(first, number(arguments, 1), arguments.size() > 2 ? number(arguments, 2) : first.length());
            case "shift":
                return inQuotes(arguments.subList(1, arguments.size()));
            default:
                workAlone(work, arguments);
                return "";
        }
    }

    private void workAlone(String work, List<String> arguments) {
        switch (work) {
            case "dnl":
                takeLine();
                break;
            case "divert":
                int number = number(arguments, 0);
                if (number > 9) {
                    throw stop(36);
                }
                current = number < 0 ? NOWHERE : number;
                break;
            case "undivert":
                boolean all = arguments.isEmpty() || arguments.equals(List.of(""));
                for (int i = 0; i < (all ? 9 : arguments.size()); i++) {
                    undivert(all ? i + 1 : number(arguments, i));
                }
                break;
            default:
                changeQuotes(arguments);
                break;
        }
    }

    private void define(String name, String text, boolean replaces) {
        if (!Model.isName(name)) {
            throw stop(35);
        }
        List<Meaning> pile = meanings.computeIfAbsent(name, key -> new ArrayList<>());
        if (replaces && !pile.isEmpty()) {
            pile.remove(pile.size() - 1);
        }
        pile.add(new Meaning(null, text));
        int count = 0;
        int bytes = 0;
        for (Map.Entry<String, List<Meaning>> entry : meanings.entrySet()) {
            for (Meaning meaning : entry.getValue()) {
                count += meaning.work == null ? 1 : 0;
                bytes += meaning.work == null ? entry.getKey().length() + meaning.text.length() : 0;
            }
        }
        if (count > 300 || bytes > 16384) {
            throw stop(40);
        }
    }

    private void pop(String name) {
        List<Meaning> pile = meanings.get(name);
        if (pile != null) {
            pile.remove(pile.size() - 1);
            if (pile.isEmpty()) {
                meanings.remove(name);
            }
        }
    }

    private static String choose(List<String> arguments) {
        if (arguments.size() < 3) {
            return "";
        }
        if (arguments.get(0).equals(arguments.get(1))) {
            return arguments.get(2);
        }
        List<String> more = arguments.subList(3, arguments.size());
        return more.size() > 2 ? choose(more) : at(more, 0);
    }

    private static String part(String text, int from, int most) {
        return from < 0 || from >= text.length() || most < 0 ? "" : text.substring(from, from + Math.min(most, text.length() - from));
    }

    private void undivert(int number) {
        if (number < 1 || number > 9 || number == current) {
            return;
        }
        if (current != NOWHERE) {
            diversions[current].append(diversions[number]);
        }
        diversions[number].setLength(0);
    }

    private void changeQuotes(List<String> arguments) {
        if (!arguments.isEmpty() && (!isQuote(at(arguments, 0)) || !isQuote(at(arguments, 1)))) {
            throw stop(37);
        }
        opening = arguments.isEmpty() ? "`" : arguments.get(0);
        closing = arguments.isEmpty() ? "'" : arguments.get(1);
    }

    private static boolean isQuote(String text) {
        return text.length() >= 1 && text.length() <= 4 && text.chars().noneMatch(c -> Model.isLetter((char) c)
                || Model.isDigit((char) c) || Model.isBlank((char) c) || "\n#(),".indexOf(c) >= 0);
    }
}
