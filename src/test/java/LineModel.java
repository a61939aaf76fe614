import java.util.ArrayList;
import java.util.List;

/** A line of a file as the second processor of Model takes it. */
final class LineModel {
    private static final String[] SIGNS = ("... <<= >>= -> ++ -- << >> <= >= == != && || *= /= %= += -= &= ^= |= ## # "
            + "[ ] ( ) { } . & * + - ~ ! / % < > ^ | ? : ; = ,").split(" ");

    final List<SecondModel.Token> tokens = new ArrayList<>();
    /** The lines of its quotes without an end. */
    final List<Integer> loneQuotes = new ArrayList<>();
    /** The line of a comment that the file's end leaves open, or 0. */
    int openComment;
    int lineBehind;

    /** The lines of a file, one at least. */
    static List<LineModel> linesOf(String file) {
        List<Integer> lineAt = new ArrayList<>();
        String text = spliced(file, lineAt);
        List<LineModel> lines = new ArrayList<>();
        int at = 0;
        while (lines.isEmpty() || at < text.length()) {
            LineModel line = new LineModel();
            at = line.read(text, at, lineAt);
            lines.add(line);
        }
        return lines;
    }

    private static String spliced(String file, List<Integer> lineAt) {
        StringBuilder text = new StringBuilder();
        int line = 1;
        for (int i = 0; i < file.length(); i++) {
            boolean goes = file.startsWith("\\\n", i);
            if (!goes) {
                text.append(file.charAt(i));
                lineAt.add(line);
            }
            line += goes || file.charAt(i) == '\n' ? 1 : 0;
            i += goes ? 1 : 0;
        }
        return text.toString();
    }

    /** Reads up to an LF outside of comments: what is behind it. */
    private int read(String text, int from, List<Integer> lineAt) {
        int at = from;
        boolean before = true;
        while (at < text.length() && text.charAt(at) != '\n') {
            if (Model.isBlank(text.charAt(at))) {
                at++;
                before = true;
            } else if (text.startsWith("//", at)) {
                int end = text.indexOf('\n', at);
                at = end < 0 ? text.length() : end;
                before = true;
            } else if (text.startsWith("/*", at)) {
                int end = text.indexOf("*/", at + 2);
                openComment = end < 0 ? lineAt.get(at) : 0;
                at = end < 0 ? text.length() : end + 2;
                before = true;
            } else {
                SecondModel.Token token = tokenAt(text, at, lineAt.get(at));
                token.before = before;
                token.first = tokens.isEmpty();
                tokens.add(token);
                if (token.is("'") || token.is("\"")) {
                    loneQuotes.add(token.line);
                }
                at += token.text.length();
                before = false;
            }
        }
        lineBehind = at < text.length() ? lineAt.get(at) + 1 : 0;
        return at + 1;
    }

    private static SecondModel.Token tokenAt(String text, int at, int line) {
        int quote = text.charAt(at) == 'L' ? at + 1 : at;
        int end = quoteEnd(text, quote);
        char first = text.charAt(at);
        if (end > 0) {
            boolean isText = text.charAt(quote) == '"';
            return token(isText ? SecondModel.Kind.TEXT : SecondModel.Kind.CHARACTER, text.substring(at, end), line);
        }
        if (Model.isLetter(first)) {
            return token(SecondModel.Kind.NAME, text.substring(at, nameEnd(text, at)), line);
        }
        if (Model.isDigit(first) || first == '.' && at + 1 < text.length() && Model.isDigit(text.charAt(at + 1))) {
            return token(SecondModel.Kind.NUMBER, text.substring(at, numberEnd(text, at)), line);
        }
        for (String sign : SIGNS) {
            if (text.startsWith(sign, at)) {
                return token(SecondModel.Kind.SIGN, sign, line);
            }
        }
        return token(SecondModel.Kind.SIGN, text.substring(at, at + 1), line);
    }

    private static SecondModel.Token token(SecondModel.Kind kind, String text, int line) {
        return new SecondModel.Token(kind, text, line, false, false);
    }

    /** Where the quoted text that begins at a place ends, or 0. */
    private static int quoteEnd(String text, int quote) {
        int lineEnd = text.indexOf('\n', quote);
        int limit = lineEnd < 0 ? text.length() : lineEnd;
        if (quote >= limit || text.charAt(quote) != '"' && text.charAt(quote) != '\'') {
            return 0;
        }
        for (int i = quote + 1; i < limit; i++) {
            if (text.charAt(i) == text.charAt(quote)) {
                return i + 1;
            }
            i += text.charAt(i) == '\\' ? 1 : 0;
        }
        return 0;
    }

    private static int nameEnd(String text, int from) {
        int at = from;
        while (at < text.length() && (Model.isLetter(text.charAt(at)) || Model.isDigit(text.charAt(at)))) {
            at++;
        }
        return at;
    }

    private static int numberEnd(String text, int from) {
        int at = from + 1;
        while (at < text.length()) {
            char c = text.charAt(at);
            boolean isSigned = (c == '+' || c == '-') && "eEpP".indexOf(text.charAt(at - 1)) >= 0;
            if (!isSigned && c != '.' && !Model.isLetter(c) && !Model.isDigit(c)) {
                return at;
            }
            at++;
        }
        return at;
    }
}
