import java.util.ArrayList;
import java.util.HashMap;
import java.util.HashSet;
import java.util.LinkedList;
import java.util.List;
import java.util.Map;
import java.util.Set;
import java.util.TreeSet;
import java.util.function.Consumer;

/** The second processor of Model: rows are lists, sets of names are sets, an argument is replaced anew at each place. */
final class SecondModel {
    enum Kind { NAME, NUMBER, TEXT, CHARACTER, SIGN }

    /** Tokens are never changed, but for the last one so far, when another one is pasted to it. */
    static final class Token {
        Kind kind;
        String text;
        int line;
        boolean before;
        boolean first;
        Set<String> hiding = Set.of();

        Token(Kind kind, String text, int line, boolean before, boolean first) {
            this.kind = kind;
            this.text = text;
            this.line = line;
            this.before = before;
            this.first = first;
        }

        Token copy() {
            Token token = new Token(kind, text, line, before, first);
            token.hiding = hiding;
            return token;
        }

        /** As one of a macro's tokens that comes of a name at a line. */
        Token of(int lineOfName) {
            return new Token(kind, text, lineOfName, before, false);
        }

        boolean is(String sign) {
            return text.equals(sign);
        }
    }

    /** Without parameters these are null. */
    static final class Macro {
        List<String> parameters;
        boolean takesMore;
        List<Token> tokens = List.of();

        int size() {
            return tokens.size() + (parameters == null ? 0 : parameters.size());
        }

        int spelling() {
            int sum = 0;
            for (Token token : tokens) {
                sum += token.text.length();
            }
            return sum + (parameters == null ? 0 : String.join("", parameters).length());
        }

        /** The number of the parameter that a token is, or -1. */
        int parameter(List<Token> row, int i) {
            if (parameters == null || i >= row.size() || row.get(i).kind != Kind.NAME) {
                return -1;
            }
            return parameters.indexOf(takesMore && row.get(i).is("__VA_ARGS__") ? "..." : row.get(i).text);
        }

        boolean isSame(Macro other) {
            boolean same = size() == other.size() && (parameters == null ? other.parameters == null : parameters.equals(other.parameters));
            for (int i = 0; same && i < tokens.size(); i++) {
                Token a = tokens.get(i);
                Token b = other.tokens.get(i);
                same = a.is(b.text) && (i == 0 || a.before == b.before);
            }
            return same;
        }
    }

    /** A file that is begun. */
    private static final class Frame {
        int file;
        List<LineModel> lines;
        int next;
        String title;
        int shift;
        int conditionsBefore;
    }

    private static final class Condition {
        int line;
        boolean counts;
        boolean hasCounted;
        boolean hadElse;
        boolean dead;
    }

    private final Model model;
    private final int main;
    private final String mainText;
    private final int depth;
    private final StringBuilder out = new StringBuilder();
    private final List<Frame> frames = new ArrayList<>();
    private final List<Condition> conditions = new ArrayList<>();
    private final Map<Integer, List<LineModel>> linesOf = new HashMap<>();
    private final Set<String> everMacros = new HashSet<>();
    private final Set<Set<String>> sets = new HashSet<>();
    private int begun;
    private int begunBytes;
    private int linesTaken;
    private int loneQuotes;
    private int made;
    /** The directive's line, and whether something stands behind the title that was read. */
    private int line;
    private boolean hasMore;

    SecondModel(Model model, int main, String mainText, int depth) {
        this.model = model;
        this.main = main;
        this.mainText = mainText;
        this.depth = depth;
    }

    String process() {
        begin(main);
        List<Token> row = new ArrayList<>();
        while (!frames.isEmpty()) {
            LineModel taken = takeLine();
            boolean isDirective = taken != null && !taken.tokens.isEmpty() && taken.tokens.get(0).is("#");
            if (taken == null || isDirective) {
                replace(row, 0, this::putOut);
                row.clear();
            }
            if (taken == null) {
                endFile();
            } else if (isDirective) {
                obey(taken);
            } else if (isCounting()) {
                addToRow(row, taken.tokens);
            }
        }
        return model.putOut > 0 ? out + "\n" : "";
    }

    private static void refuseIf(boolean tooMuch, int line) {
        if (tooMuch) {
            throw new Model.Stop(21, line);
        }
    }

    private Model.Stop stop(int error) {
        return new Model.Stop(error, line);
    }

    private Frame frame() {
        return frames.get(frames.size() - 1);
    }

    private boolean isCounting() {
        return conditions.isEmpty() || conditions.get(conditions.size() - 1).counts;
    }

    private void begin(int file) {
        String text = file == main ? mainText : model.texts.get(file);
        begun++;
        begunBytes += text.length();
        refuseIf(begun > 500 || begunBytes > 524288, line);
        Frame frame = new Frame();
        frame.file = file;
        frame.lines = linesOf.computeIfAbsent(file, key -> LineModel.linesOf(text));
        frame.title = model.titles.get(file);
        frame.conditionsBefore = conditions.size();
        frames.add(frame);
        model.fileAtHand = file;
    }

    private void endFile() {
        if (conditions.size() > frame().conditionsBefore) {
            throw new Model.Stop(14, conditions.get(conditions.size() - 1).line);
        }
        frames.remove(frames.size() - 1);
        if (!frames.isEmpty()) {
            model.fileAtHand = frame().file;
        }
    }

    /** The next line, perhaps without tokens; null at the file's end. */
    private LineModel takeLine() {
        Frame frame = frame();
        if (frame.next == frame.lines.size()) {
            return null;
        }
        LineModel taken = frame.lines.get(frame.next);
        frame.next++;
        for (int lineOfQuote : taken.loneQuotes) {
            loneQuotes++;
            refuseIf(loneQuotes > 1000, lineOfQuote);
        }
        if (taken.openComment > 0) {
            throw new Model.Stop(1, taken.openComment);
        }
        if (!taken.tokens.isEmpty()) {
            linesTaken++;
            refuseIf(linesTaken > 20000, taken.tokens.get(0).line);
        }
        return taken;
    }

    private static void addToRow(List<Token> row, List<Token> tokens) {
        for (Token token : tokens) {
            refuseIf(row.size() == 8000, token.line);
            row.add(token);
        }
    }

    private void putOut(Token token) {
        String between = model.putOut == 0 ? "" : token.first ? "\n" : " ";
        refuseIf(out.length() + between.length() + token.text.length() + 1 > 65536, token.line);
        out.append(between).append(token.text);
        model.putOut++;
    }

    private void countSpelling(int length, int lineOfName) {
        made += length;
        refuseIf(made > 60000, lineOfName);
    }

    // Replacing.

    private void replace(List<Token> row, int within, Consumer<Token> done) {
        LinkedList<Token> left = new LinkedList<>(row);
        while (!left.isEmpty()) {
            Token token = left.removeFirst();
            Macro macro = token.kind == Kind.NAME && !token.hiding.contains(token.text) ? model.macros.get(token.text) : null;
            if (macro != null && macro.parameters == null) {
                left.addAll(0, comesOf(macro, token, token, List.of(), within));
            } else if (macro != null && !left.isEmpty() && left.getFirst().is("(")) {
                List<List<Token>> arguments = new ArrayList<>();
                Token closing = takeArguments(left, macro, arguments, token.line);
                left.addAll(0, comesOf(macro, token, closing, arguments, within));
            } else {
                done.accept(token.kind == Kind.NAME ? told(token) : token);
            }
        }
    }

    /** What __LINE__ and __FILE__ become; any other name stays. */
    private Token told(Token token) {
        Token told = token.copy();
        if (token.is("__LINE__")) {
            told.kind = Kind.NUMBER;
            told.text = String.valueOf(token.line + frame().shift);
        } else if (token.is("__FILE__")) {
            told.kind = Kind.TEXT;
            told.text = '"' + escaped(frame().title) + '"';
        } else {
            return token;
        }
        countSpelling(told.text.length(), token.line);
        return told;
    }

    private static String escaped(String text) {
        return text.replace("\\", "\\\\").replace("\"", "\\\"");
    }

    private static Token takeArguments(LinkedList<Token> left, Macro macro, List<List<Token>> arguments, int lineOfName) {
        int count = macro.parameters.size();
        int nesting = 0;
        left.removeFirst();
        arguments.add(new ArrayList<>());
        while (!left.isEmpty()) {
            Token token = left.removeFirst();
            boolean isLast = macro.takesMore && arguments.size() == count;
            if (nesting == 0 && token.is(")")) {
                if (count == 0 && arguments.size() == 1 && arguments.get(0).isEmpty()) {
                    arguments.clear();
                }
                if (arguments.size() != count) {
                    throw new Model.Stop(17, lineOfName);
                }
                return token;
            }
            if (nesting == 0 && token.is(",") && !isLast) {
                arguments.add(new ArrayList<>());
            } else {
                nesting += token.is("(") ? 1 : token.is(")") ? -1 : 0;
                arguments.get(arguments.size() - 1).add(token);
            }
        }
        throw new Model.Stop(18, lineOfName);
    }

    private List<Token> comesOf(Macro macro, Token name, Token closing, List<List<Token>> arguments, int within) {
        List<Token> row = substitute(macro, name.line, arguments, within);
        Set<String> common = new TreeSet<>(name.hiding);
        common.retainAll(closing.hiding);
        common.add(name.text);
        for (Token token : row) {
            token.hiding = new TreeSet<>(token.hiding);
            token.hiding.addAll(common);
            token.first = false;
            countSet(token.hiding, name.line);
        }
        if (!row.isEmpty()) {
            row.get(0).before = name.before;
            row.get(0).first = name.first;
        }
        return row;
    }

    private void countSet(Set<String> set, int lineOfName) {
        if (!set.isEmpty()) {
            sets.add(set);
            refuseIf(sets.size() > 1000, lineOfName);
        }
    }

    private List<Token> substitute(Macro macro, int lineOfName, List<List<Token>> arguments, int within) {
        List<Token> row = new ArrayList<>();
        List<Token> tokens = macro.tokens;
        int i = 0;
        while (i < tokens.size()) {
            Token token = tokens.get(i);
            int own = macro.parameter(tokens, i);
            int behind = macro.parameter(tokens, i + 1);
            if (token.is("#") && behind >= 0) {
                put(row, textOf(arguments.get(behind), token.before, lineOfName), lineOfName);
                i += 2;
            } else if (token.is("##")) {
                List<Token> right = behind >= 0 ? arguments.get(behind) : List.of(tokens.get(i + 1).of(lineOfName));
                for (int k = 0; k < right.size(); k++) {
                    pasteOrPut(row, right.get(k), k == 0, lineOfName);
                }
                i += 2;
            } else if (own < 0) {
                put(row, token.of(lineOfName), lineOfName);
                i++;
            } else if (i + 1 == tokens.size() || !tokens.get(i + 1).is("##")) {
                putAll(row, replaced(arguments.get(own), lineOfName, within), lineOfName);
                i++;
            } else if (!arguments.get(own).isEmpty()) {
                putAll(row, arguments.get(own), lineOfName);
                i++;
            } else {
                int second = macro.parameter(tokens, i + 2);
                putAll(row, second >= 0 ? arguments.get(second) : List.of(), lineOfName);
                i += second >= 0 ? 3 : 2;
            }
        }
        return row;
    }

    private List<Token> replaced(List<Token> argument, int lineOfName, int within) {
        if (within == 60) {
            throw new Model.Stop(20, lineOfName);
        }
        List<Token> row = new ArrayList<>();
        replace(argument, within + 1, row::add);
        return row;
    }

    private void putAll(List<Token> row, List<Token> tokens, int lineOfName) {
        tokens.forEach(token -> put(row, token, lineOfName));
    }

    private void put(List<Token> row, Token token, int lineOfName) {
        refuseIf(model.substituted == 40000, lineOfName);
        model.substituted++;
        row.add(token.copy());
    }

    private Token textOf(List<Token> argument, boolean before, int lineOfName) {
        StringBuilder text = new StringBuilder("\"");
        for (int i = 0; i < argument.size(); i++) {
            Token token = argument.get(i);
            boolean isQuoted = token.kind == Kind.TEXT || token.kind == Kind.CHARACTER;
            text.append(i > 0 && token.before ? " " : "").append(isQuoted ? escaped(token.text) : token.text);
        }
        countSpelling(text.length() + 1, lineOfName);
        return new Token(Kind.TEXT, text.append('"').toString(), lineOfName, before, false);
    }

    private void pasteOrPut(List<Token> row, Token token, boolean isPasted, int lineOfName) {
        if (!isPasted || row.isEmpty()) {
            put(row, token, lineOfName);
            return;
        }
        Token left = row.get(row.size() - 1);
        String text = left.text + token.text;
        countSpelling(text.length(), lineOfName);
        LineModel line = LineModel.linesOf(text).get(0);
        if (line.openComment > 0 || line.tokens.size() != 1 || !line.tokens.get(0).is(text)) {
            throw new Model.Stop(19, lineOfName);
        }
        left.kind = line.tokens.get(0).kind;
        left.text = text;
        left.hiding = new TreeSet<>(left.hiding);
        left.hiding.retainAll(token.hiding);
        countSet(left.hiding, lineOfName);
    }

    /** Replaces a directive's tokens. */
    private List<Token> replacedHere(List<Token> tokens) {
        List<Token> row = new ArrayList<>();
        replace(tokens, 0, token -> {
            refuseIf(row.size() == 8000, line);
            row.add(token);
        });
        return row;
    }

    // Directives.

    private void obey(LineModel taken) {
        List<Token> tokens = taken.tokens;
        line = tokens.get(0).line;
        String word = tokens.size() == 1 ? "" : tokens.get(1).kind == Kind.NAME ? tokens.get(1).text : "?";
        switch (word) {
            case "if":
            case "ifdef":
            case "ifndef":
                openCondition(word, tokens);
                break;
            case "elif":
            case "else":
            case "endif":
                continueCondition(word, tokens);
                break;
            default:
                if (isCounting() && !word.isEmpty()) {
                    obeyCounting(word, tokens, taken.lineBehind);
                }
                break;
        }
    }

    private void obeyCounting(String word, List<Token> tokens, int lineBehind) {
        switch (word) {
            case "define":
                define(tokens);
                break;
            case "undef":
                model.macros.remove(nameAlone(tokens));
                break;
            case "include":
                include(tokens);
                break;
            case "line":
                setLine(tokens, lineBehind);
                break;
            case "error":
                throw stop(16);
            case "pragma":
                refuseIf(tokens.size() > 8000, line);
                break;
            default:
                throw stop(2);
        }
    }

    private String name(List<Token> tokens) {
        Set<String> others = Set.of("defined", "__LINE__", "__FILE__", "__VA_ARGS__");
        if (tokens.size() < 3 || tokens.get(2).kind != Kind.NAME || others.contains(tokens.get(2).text)) {
            throw stop(3);
        }
        return tokens.get(2).text;
    }

    private String nameAlone(List<Token> tokens) {
        String name = name(tokens);
        if (tokens.size() > 3) {
            throw stop(7);
        }
        return name;
    }

    private void openCondition(String word, List<Token> tokens) {
        Condition condition = new Condition();
        condition.line = line;
        condition.dead = !isCounting();
        if (!condition.dead) {
            condition.counts = word.equals("if") ? holds(tokens) : model.macros.containsKey(nameAlone(tokens)) == word.equals("ifdef");
            condition.hasCounted = condition.counts;
        }
        refuseIf(conditions.size() == 100, line);
        conditions.add(condition);
    }

    private void continueCondition(String word, List<Token> tokens) {
        boolean isThere = conditions.size() > frame().conditionsBefore;
        Condition condition = isThere ? conditions.get(conditions.size() - 1) : new Condition();
        if (!condition.dead && !word.equals("elif") && tokens.size() > 2) {
            throw stop(7);
        }
        if (!isThere || !condition.dead && condition.hadElse && !word.equals("endif")) {
            throw stop(13);
        }
        if (word.equals("endif")) {
            conditions.remove(conditions.size() - 1);
        } else if (!condition.dead) {
            condition.hadElse = word.equals("else");
            condition.counts = !condition.hasCounted && (condition.hadElse || holds(tokens));
            condition.hasCounted = condition.hasCounted || condition.counts;
        }
    }

    private boolean holds(List<Token> tokens) {
        List<Token> asked = new ArrayList<>();
        for (int i = 2; i < tokens.size(); i++) {
            Token token = tokens.get(i);
            if (token.is("defined")) {
                boolean isWrapped = i + 3 < tokens.size() && tokens.get(i + 1).is("(") && tokens.get(i + 3).is(")");
                i += isWrapped ? 2 : 1;
                if (i >= tokens.size() || tokens.get(i).kind != Kind.NAME) {
                    throw stop(11);
                }
                String truth = model.macros.containsKey(tokens.get(i).text) ? "1" : "0";
                token = new Token(Kind.NUMBER, truth, token.line, token.before, false);
                i += isWrapped ? 1 : 0;
            }
            asked.add(token);
        }
        refuseIf(tokens.size() > 8000, line);
        return new ConditionModel(replacedHere(asked), line).holds();
    }

    private void define(List<Token> tokens) {
        String name = name(tokens);
        Macro macro = new Macro();
        int from = 3;
        if (tokens.size() > 3 && tokens.get(3).is("(") && !tokens.get(3).before) {
            from = readParameters(tokens, macro);
        }
        macro.tokens = tokens.subList(from, tokens.size());
        if (!macro.takesMore && macro.tokens.stream().anyMatch(token -> token.is("__VA_ARGS__"))) {
            throw stop(4);
        }
        lookAtHashes(macro);
        if (!model.macros.containsKey(name)) {
            addMacro(name, macro, tokens.size());
        } else if (!model.macros.get(name).isSame(macro)) {
            throw stop(6);
        }
    }

    /** Reads what stands between ( and ) : where the macro's tokens begin. */
    private int readParameters(List<Token> tokens, Macro macro) {
        int closing = 4;
        while (closing < tokens.size() && !tokens.get(closing).is(")")) {
            closing++;
        }
        macro.parameters = new ArrayList<>();
        boolean fits = closing < tokens.size() && (closing == 4 || (closing - 4) % 2 == 1);
        for (int i = 4; i < closing && fits; i++) {
            Token token = tokens.get(i);
            if (i % 2 == 1) {
                fits = token.is(",");
            } else {
                macro.takesMore = token.is("...") && i == closing - 1;
                boolean isName = token.kind == Kind.NAME && !token.is("__VA_ARGS__") && !macro.parameters.contains(token.text);
                fits = macro.takesMore || isName;
                macro.parameters.add(token.text);
            }
        }
        if (!fits || macro.parameters.size() > 30) {
            throw stop(4);
        }
        return closing + 1;
    }

    private void lookAtHashes(Macro macro) {
        List<Token> tokens = macro.tokens;
        int last = tokens.size() - 1;
        boolean fits = tokens.isEmpty() || !tokens.get(0).is("##") && !tokens.get(last).is("##");
        for (int i = 0; i <= last && macro.parameters != null; i++) {
            fits = fits && (!tokens.get(i).is("#") || macro.parameter(tokens, i + 1) >= 0);
        }
        if (!fits) {
            throw stop(5);
        }
    }

    private void addMacro(String name, Macro macro, int tokensOfDirective) {
        int sum = macro.size();
        for (Macro other : model.macros.values()) {
            sum += other.size();
        }
        boolean isNew = !everMacros.contains(name);
        refuseIf(tokensOfDirective > 8000 || sum > 8000 || isNew && everMacros.size() == 400, line);
        countSpelling(macro.spelling() + (isNew ? name.length() : 0), line);
        everMacros.add(name);
        model.macros.put(name, macro);
    }

    private void include(List<Token> tokens) {
        String title = title(tokens.subList(2, tokens.size()));
        if (title == null) {
            refuseIf(tokens.size() > 8000, line);
            title = title(replacedHere(tokens.subList(2, tokens.size())));
        }
        if (title == null) {
            throw stop(8);
        }
        if (hasMore) {
            throw stop(7);
        }
        if (!model.titles.contains(title)) {
            throw stop(9);
        }
        if (frames.size() > depth) {
            throw stop(10);
        }
        begin(model.titles.indexOf(title));
    }

    private static boolean isNarrowText(Token token) {
        return token.kind == Kind.TEXT && !token.text.startsWith("L");
    }

    private static String between(Token token) {
        return token.text.substring(1, token.text.length() - 1);
    }

    /** The title at the beginning of a row, or null. */
    private String title(List<Token> row) {
        if (!row.isEmpty() && isNarrowText(row.get(0))) {
            hasMore = row.size() > 1;
            return between(row.get(0));
        }
        StringBuilder title = new StringBuilder();
        for (int i = 1; i < row.size() && row.get(0).is("<"); i++) {
            Token token = row.get(i);
            if (token.is(">")) {
                hasMore = i + 1 < row.size();
                return title.toString();
            }
            title.append(i > 1 && token.before ? " " : "").append(token.text);
        }
        return null;
    }

    private void setLine(List<Token> tokens, int lineBehind) {
        refuseIf(tokens.size() > 8000, line);
        List<Token> row = replacedHere(tokens.subList(2, tokens.size()));
        boolean fits = (row.size() == 1 || row.size() == 2) && row.get(0).text.matches("(?!0+$)[0-9]{1,9}");
        if (fits && row.size() == 2) {
            fits = isNarrowText(row.get(1)) && between(row.get(1)).length() <= 64;
        }
        if (!fits) {
            throw stop(15);
        }
        frame().shift = Integer.parseInt(row.get(0).text) - lineBehind;
        frame().title = row.size() == 2 ? between(row.get(1)) : frame().title;
    }
}
