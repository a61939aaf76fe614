/** Each sentence of the document that names an edge of the first processor, but its bounds of room. */
public final class FirstEdgesTest {
    private static final String[] WITH_PARENTHESIS = {"define", "pushdef", "undefine", "popdef", "ifdef", "ifelse", "eval", "incr",
        "decr", "len", "index", "substr", "shift"};
    private static final String[] WITHOUT = {"dnl", "divert", "undivert", "changequote"};

    public static void main(String[] args) {
        bytesBehindAName();
        bytesBeforeAName();
        bytesBeforeAnArgument();
        quotesWithoutEnd();
        quotesOfSeveralBytes();
        commentsToTheEnd();
        callsWithoutEnd();
        numberOfArguments();
        builtInNamesWithoutParenthesis();
        namesLikeBuiltInOnes();
        meaningThatIsGone();
        marksInTexts();
        namesThatAreDefined();
        namesThatAreNone();
        missingArguments();
        moreArgumentsThanTold();
        ifelseOfEachLength();
        numbers();
        numbersThatAreNone();
        indexes();
        substrings();
        shifts();
        dnlAtTheEnd();
        divertNumbers();
        undivertNumbers();
        currentDiversion();
        quoteLengths();
        quoteBytes();
        expressionNumbers();
        expressionNesting();
        expressionValues();
        shiftCounts();
        divisions();
        expressionsThatAreNone();
        operatorsOfTwoSigns();
        linesOfErrors();
        Bench.finish("FirstEdgesTest");
    }

    private static void gives(String text, String want) {
        Bench.gives(1, text, want);
    }

    private static void fails(String text, int error, int line) {
        Bench.fails(1, text, error, line);
    }

    private static boolean isLetter(int b) {
        return b >= 65 && b <= 90 || b >= 97 && b <= 122 || b == 95;
    }

    private static boolean isDigit(int b) {
        return b >= 48 && b <= 57;
    }

    private static boolean isBlank(int b) {
        return b == 32 || b == 9 || b == 11 || b == 12 || b == 13;
    }

    private static void bytesBehindAName() {
        for (int b = 0; b < 256; b++) {
            String text = "define(`a',1)a" + (char) b;
            if (b == '(') {
                fails(text, 33, 1);
            } else if (b == '`') {
                fails(text, 32, 1);
            } else {
                gives(text, (isLetter(b) || isDigit(b) ? "a" : "1") + (char) b);
            }
        }
    }

    private static void bytesBeforeAName() {
        for (int b = 0; b < 256; b++) {
            String text = "define(`a',1)" + (char) b + "a";
            if (b == '`') {
                fails(text, 32, 1);
            } else {
                gives(text, (char) b + (isLetter(b) || b == '#' ? "a" : "1"));
            }
        }
    }

    private static void bytesBeforeAnArgument() {
        for (int b = 0; b < 256; b++) {
            String text = "define(`f',`<$1>')f(" + (char) b + "x)";
            if (b == '(' || b == '#') {
                fails(text, 33, 1);
            } else if (b == '`') {
                fails(text, 32, 1);
            } else if (b == ')') {
                gives(text, "<>x)");
            } else if (b == ',') {
                gives(text, "<>");
            } else {
                gives(text, "<" + (isBlank(b) || b == 10 ? "" : (char) b) + "x>");
            }
        }
    }

    private static void quotesWithoutEnd() {
        fails("`", 32, 1);
        fails("a\n`b\nc", 32, 2);
        fails("`a `b' c", 32, 1);
        fails("\n``\n'\n", 32, 2);
        fails("\n\nlen(`a)\n", 32, 3);
        gives("`a `b' c'", "a `b' c");
        gives("'a'`'", "'a'");
        fails("define(`q',`changequote([,])\n\n[[a')\nq\n]b", 32, 4);
        fails("define(`q',`changequote([,])')q\n\n[\n[a\n]b", 32, 3);
    }

    private static void quotesOfSeveralBytes() {
        String quotes = "changequote(<<,>>)\n";
        gives(quotes + "<<a>>", "\na");
        gives(quotes + "<a> <", "\n<a> <");
        fails(quotes + "<<a>", 32, 2);
        fails(quotes + "<<", 32, 2);
        fails(quotes + "<<a<<b>>>", 32, 2);
        gives(quotes + "<<<a>>>", "\n<a>");
        gives("changequote(<,<<)<a<<", "a");
        gives("changequote(!,!)!a!!b!", "ab");
        gives("changequote(<,>>)<a<>>b>>", "a<>>b");
        gives("changequote([,])define([a],1)define([f],[$@])changequote(<=+,+-!)f(<=+a+-!,b) shift(x,<=+a+-!,<=+b+-!)", "a,b a,b");
    }

    private static void commentsToTheEnd() {
        gives("#", "#");
        gives("#\n", "#\n");
        gives("#`a\n#len(", "#`a\n#len(");
        gives("define(`a',1)#a\na`#'a", "#a\n1#1");
        gives("define(`a',`#$1')a(x)a\nb", "#xa\nb");
    }

    private static void callsWithoutEnd() {
        fails("len(", 33, 1);
        fails("len(\n\n", 33, 3);
        fails("len(a,\n(b)\n", 33, 3);
        fails("len((a)\n", 33, 2);
        fails("define(`l',`len(')\nl\n\n", 33, 4);
        fails("len(len(\n)", 33, 2);
        fails("dnl(x\n", 33, 2);
        gives("len((a))", "3");
    }

    private static void numberOfArguments() {
        String f = "define(`f',`$#')";
        gives(f + "f", "0");
        gives(f + "f()", "1");
        gives(f + "f( )", "1");
        gives(f + "f(,)", "2");
        gives(f + "f(`,')", "1");
        gives(f + "f((,))", "1");
        gives(f + "f (,)", "0 (,)");
        gives(f + "f\n()", "0\n()");
        gives(f + "f`'(a)", "0(a)");
    }

    /** A name that differs from a built-in one in a single letter is no macro. */
    private static void namesLikeBuiltInOnes() {
        String names = "define pushdef undefine popdef ifdef ifelse eval incr decr len index substr shift dnl divert undivert changequote";
        for (String known : names.split(" ")) {
            StringBuilder text = new StringBuilder();
            for (int i = 0; i < known.length(); i++) {
                text.append(known, 0, i).append('z').append(known.substring(i + 1)).append("(1) ");
            }
            text.append(known, 1, known.length()).append("() ").append(known, 0, known.length() - 1).append("() ").append(known).append("s()");
            gives(text.toString(), text.toString());
        }
    }

    private static void builtInNamesWithoutParenthesis() {
        for (String name : WITH_PARENTHESIS) {
            gives(name + " (a) " + name + "`'(b)" + name, name + " (a) " + name + "(b)" + name);
            gives("define(`f',`<$1>')f(" + name + ")", "<" + name + ">");
        }
        gives("a dnl\nb", "a b");
        gives("divert(1)a`'divert`'b", "ba");
        gives("divert(2)b`'divert(1)a`'divert(0)undivert`'c", "abc");
        gives("changequote([,])changequote`a'[b]", "a[b]");
        for (String[] names : new String[][] {WITH_PARENTHESIS, WITHOUT}) {
            for (String name : names) {
                gives("ifdef(`" + name + "',1,2)", "1");
            }
        }
    }

    private static void meaningThatIsGone() {
        gives("define(`f',`F')f(undefine(`f'))x f", "x f");
        gives("define(`f',`F')f(popdef(`f'))x", "x");
        gives("define(`f',`F')f(define(`f',`H'))", "H");
        gives("define(`f',`F')f(`ab'popdef(`f')define(`f',`len(`$1')'))", "2");
        gives("len(undefine(`len'))x", "x");
        gives("define(`f',`F')f(pushdef(`f',`P'))`'popdef(`f')f", "PF");
    }

    private static void marksInTexts() {
        for (int b = 0; b < 256; b++) {
            String mark = Character.toString((char) b);
            String want = "$" + mark;
            if (isDigit(b)) {
                want = b == '0' ? "f" : b == '1' ? "x" : b == '2' ? "y" : "";
            } else if (b == '#' || b == '*' || b == '@') {
                want = b == '#' ? "2" : b == '*' ? "x,y" : "`x',`y'";
            }
            if (b != '`' && b != '\'') {
                gives("define(`f',``[$" + mark + "]'')f(x,y)", "[" + want + "]");
            }
        }
        gives("define(`f',``$'')f(x)", "$");
        gives("define(`f',``$$1$$'')f(x)", "$x$$");
        gives("define(`f',``$9$8'')f(1,2,3,4,5,6,7,8,9,10)f(1,2,3,4,5,6,7,8)", "988");
        gives("define(`f',``<$#$*$@$1$9>'')f|f()|f(,)", "<0>|<1`'>|<2,`',`'>");
        // Behind a text's end lies what a run before left there.
        Bench bench = new Bench().about("a mark at the end of a text");
        bench.file("m", "define(`f',`x$1')f(q)");
        bench.file("n", "define(`f',`x$')f(q)");
        for (int i = 0; i < 4; i++) {
            bench.due("run", bench.mill.run(i % 2, 1, 1000, 0), 0);
            bench.due("out", bench.out(), i % 2 == 0 ? "xq" : "x$");
        }
    }

    private static void namesThatAreDefined() {
        for (String word : new String[] {"define", "pushdef"}) {
            for (String name : new String[] {"_", "a", "Z", "A0", "_9", "n".repeat(300), "define", "dnl"}) {
                gives(word + "(`" + name + "',`v')" + name, "v");
            }
        }
        // What is defined takes the place of a built-in meaning.
        for (String[] names : new String[][] {WITH_PARENTHESIS, WITHOUT}) {
            for (String name : names) {
                if (!name.equals("popdef")) {
                    gives("define(`" + name + "',`x')" + name + " popdef(`" + name + "')" + name + "(a)", "x " + name + "(a)");
                }
            }
        }
    }

    private static void namesThatAreNone() {
        for (int b = 0; b < 256; b++) {
            if (b == '`') {
                continue;
            }
            String byteAlone = "\ndefine(`" + (char) b + "',v)";
            String byteBehind = "\npushdef(`a" + (char) b + "',v)";
            int line = b == 10 ? 3 : 2;
            if (isLetter(b)) {
                gives(byteAlone, "\n");
            } else {
                fails(byteAlone, 35, line);
            }
            if (isLetter(b) || isDigit(b)) {
                gives(byteBehind, "\n");
            } else {
                fails(byteBehind, 35, line);
            }
        }
        fails("define()", 35, 1);
        fails("pushdef()", 35, 1);
        fails("define(,a)", 35, 1);
    }

    private static void missingArguments() {
        gives("define(`a')<a>pushdef(`b')<b>", "<><>");
        gives("undefine()popdef()<ifdef()ifdef(`len')ifdef(`no',a)>", "<>");
        gives("incr() decr() len() index() <substr()> <shift()>", "1 -1 0 0 <> <>");
        gives("divert(1)a`'divert()b`'undivert()c", "bac");
        gives("index(a) index(,a) substr(abc) substr(abc,) <substr(abc,,)>", "0 -1 abc abc <>");
        fails("eval()", 38, 1);
        fails("changequote()", 37, 1);
    }

    private static void moreArgumentsThanTold() {
        gives("define(`a',1,x)a pushdef(`a',2,x)a", "1 2");
        gives("ifdef(`len',1,2,3) ifdef(`no',1,2,3)", "1 2");
        gives("eval(1,x) incr(1,x) decr(1,x) len(ab,x) index(ab,b,x) substr(abc,1,1,x)", "1 2 0 2 1 b");
        gives("divert(1,x)a`'divert(0,10)b", "ba");
        gives("changequote([,],a,)[b]", "b");
        gives("a dnl(,,x)y\nb", "a b");
    }

    private static void ifelseOfEachLength() {
        StringBuilder arguments = new StringBuilder("a0");
        for (int count = 1; count <= 14; count++) {
            int chosen = count >= 4 && count % 3 != 0 ? (count - 1) / 3 * 3 : -1;
            gives("<ifelse(" + arguments + ")>", "<" + (chosen < 0 ? "" : "a" + chosen) + ">");
            for (int same = 0; same + 2 < count; same += 3) {
                String text = arguments.toString().replace("a" + (same + 1) + ",", "a" + same + ",");
                gives("<ifelse(" + text + ")>", "<a" + (same + 2) + ">");
            }
            arguments.append(",a").append(count);
        }
        gives("<ifelse(,)><ifelse(,,)><ifelse(,,x)><ifelse(a,a)>", "<><><x><>");
        gives("<ifelse(a,ab,1,2)><ifelse(ab,a,1,2)><ifelse(a,A,1,2)>", "<2><2><2>");
    }

    private static void numbers() {
        gives("incr(0) incr(9) incr(999999999) incr(-999999999) incr(000000001) incr(-000000001) incr(-0) incr( 1)",
                "1 10 1000000000 -999999998 2 0 1 2");
        gives("decr(0) decr(1) decr(999999999) decr(-999999999) decr(-0)", "-1 0 999999998 -1000000000 -1");
        gives("<substr(abc,000000001,000000001)><substr(abc,-999999999)><substr(abc,999999999)><substr(abc,1,999999999)>", "<b><><><bc>");
    }

    private static void numbersThatAreNone() {
        for (String text : new String[] {"x", "1 ", "` 1'", "--1", "-", "+1", "1234567890", "-1234567890", "0000000001", "1x", "`1,'", "0x1", "1.", "- 1",
            "1-", "\u00b2"}) {
            for (String call : new String[] {"incr(", "decr(", "substr(abc,", "substr(abc,9,", "divert(", "undivert(", "undivert(1,"}) {
                fails("\n" + call + text + ")", 36, 2);
            }
        }
    }

    private static void indexes() {
        String[] texts = {"", "a", "ab", "ba", "aab", "abab", "aaab"};
        for (String text : texts) {
            for (String part : texts) {
                gives("index(`" + text + "',`" + part + "')", Integer.toString(text.indexOf(part)));
            }
        }
    }

    private static void substrings() {
        for (int from = -2; from <= 5; from++) {
            String rest = from >= 0 && from < 3 ? "abc".substring(from) : "";
            gives("<substr(abc," + from + ")>", "<" + rest + ">");
            for (int count = -2; count <= 5; count++) {
                String part = rest.substring(0, Math.max(0, Math.min(count, rest.length())));
                gives("<substr(abc," + from + "," + count + ")>", "<" + part + ">");
            }
        }
    }

    private static void shifts() {
        gives("<shift(a)><shift(a,b)><shift(a,b,c)><shift(,)>", "<><b><b,c><>");
        gives("define(`f',``$#$@'')f(shift(a)) f(shift(a,b)) f(shift(a,b,c)) f(shift(,))", "1`' 1`b' 2`b',`c' 1`'");
        gives("changequote([,])define([f],[[$#$@]])f(shift(a,[b,c],d))", "2[b,c],[d]");
    }

    private static void dnlAtTheEnd() {
        gives("a dnl", "a ");
        gives("a dnl b", "a ");
        gives("a dnl\n", "a ");
        gives("a dnl\n\nb", "a \nb");
        gives("dnl(a)(b)\nc", "c");
        gives("define(`d',`dnl x')d y\nz", "z");
        gives("define(`d',`dnl x\ny')d z\n", "y z\n");
        gives("len(dnl )\na)", "1");
        fails("len(dnl )", 33, 1);
    }

    private static void divertNumbers() {
        gives("divert(9)a`'divert(1)b`'divert(0)c", "cba");
        gives("divert(-1)a`'divert(-999999999)b`'divert(0)c", "c");
        fails("\ndivert(10)", 36, 2);
        fails("\ndivert(999999999)", 36, 2);
        StringBuilder text = new StringBuilder();
        for (int i = 9; i >= -1; i--) {
            text.append("divert(").append(i).append(")d").append(i).append(";");
        }
        gives(text.toString(), "d0;d1;d2;d3;d4;d5;d6;d7;d8;d9;");
    }

    private static void undivertNumbers() {
        String filled = "divert(1)a`'divert(5)e`'divert(9)i`'divert(0)";
        for (String none : new String[] {"0", "10", "-1", "-9", "999999999", "-999999999", "2", "0,0", ",", "0,,10"}) {
            gives(filled + "undivert(" + none + ")x", "xaei");
        }
        gives(filled + "undivert(1)x", "axei");
        gives(filled + "undivert(9)x", "ixae");
        gives(filled + "undivert(9,1,9,5,5)x", "iaex");
        gives(filled + "undivert(,9)x", "ixae");
        gives(filled + "undivert()x", "aeix");
        gives(filled + "undivert( )x", "aeix");
        gives(filled + "undivert`'x", "aeix");
        fails(filled + "undivert(1,x)", 36, 1);
    }

    private static void currentDiversion() {
        gives("divert(1)a`'undivert(1)undivert`'b", "ab");
        gives("divert(2)b`'divert(1)a`'undivert`'divert(0)c", "cab");
        gives("divert(1)a`'divert(-1)undivert(1)divert(0)undivert(1)c", "c");
        gives("divert(1)a`'divert(2)b`'divert(-1)undivert`'divert(1)d`'divert(0)c", "cd");
        gives("divert(-1)a`'len(b)", "");
        gives("a`'divert(1)b`'undivert(0)divert(0)c", "acb");
        gives("a`'divert(1)b`'undivert`'divert(0)c", "acb");
        // Each run begins with 0.
        gives("a divert(-1)b", "a ");
        gives("a`'divert(0)b`'divert(1)c", "abc");
    }

    private static void quoteLengths() {
        gives("changequote(+,-)+a-", "a");
        gives("changequote(++++,----)++++a---- +++b---", "a +++b---");
        gives("changequote(+++,--)+++a--", "a");
        for (String bad : new String[] {"+++++,-", "+,-----", "`',-", "+,`'", "+", "", ",", "+,"}) {
            fails("\nchangequote(" + bad + ")", 37, 2);
        }
    }

    private static void quoteBytes() {
        String first = "changequote([,])\n";
        for (int b = 0; b < 256; b++) {
            boolean bad = isLetter(b) || isDigit(b) || isBlank(b) || b == 10 || b == 35 || b == '(' || b == ')' || b == ',';
            char quote = (char) b;
            int line = b == 10 ? 3 : 2;
            if (b == '[') {
                continue;
            }
            if (bad) {
                fails(first + "changequote([" + quote + "],[+])", 37, line);
                fails(first + "changequote([+],[" + quote + "])", 37, line);
                fails(first + "changequote([=" + quote + "=-],[+])", 37, line);
                fails(first + "changequote([+],[---" + quote + "])", 37, line);
            } else {
                gives(first + "changequote([" + quote + "],[+])" + quote + "x+", "\nx");
                gives(first + "changequote([+],[" + quote + "])+x" + quote, "\nx");
            }
        }
    }

    private static void expressionNumbers() {
        gives("eval(0) eval(999999999) eval(000000000) eval(010) eval(08) eval(000000009)", "0 999999999 0 10 8 9");
        for (String text : new String[] {"1000000000", "0000000000", "9999999999", "1 000000000", "0x1", "1u"}) {
            fails("eval(" + text + ")", 38, 1);
        }
    }

    private static void expressionNesting() {
        for (int n : new int[] {30, 31}) {
            String[] nested = {"(".repeat(n) + "1" + ")".repeat(n), "-".repeat(n) + "1", "!".repeat(n) + "1", "(1+".repeat(n) + "1" + ")".repeat(n),
                "(-".repeat(n / 2) + (n % 2 == 0 ? "1" : "~1") + ")".repeat(n / 2), "1+-" + "-".repeat(n - 1) + "1*2", "-(".repeat(n / 2)
                + (n % 2 == 0 ? "1" : "(1)") + ")".repeat(n / 2)};
            for (String text : nested) {
                if (n == 30) {
                    Bench.fine(1, "eval(" + text + ")");
                } else {
                    fails("eval(" + text + ")", 38, 1);
                }
            }
        }
        // Side by side they are not in one another.
        gives("eval(" + "-(1)+".repeat(40) + "40)", "0");
        gives("eval((" + "(".repeat(29) + "1" + ")".repeat(29) + "+" + "(".repeat(29) + "1" + ")".repeat(29) + "))", "2");
    }

    private static void expressionValues() {
        gives("eval(1<<31) eval((1<<31)-1) eval(-(1<<31)) eval((1<<31)/-1) eval((1<<31)%-1) eval((1<<31)*-1) eval(~(1<<31))",
                "-2147483648 2147483647 -2147483648 -2147483648 0 -2147483648 2147483647");
        gives("eval((1<<31)-1+1) eval((1<<30)*2) eval((1<<16)*(1<<16)) eval(999999999*999999999) eval(~0) eval(+5) eval(- -5)",
                "-2147483648 -2147483648 0 808348673 -1 5 5");
        gives("eval((1<<31)<0) eval((1<<31)>0) eval(((1<<31)-1)>(1<<31)) eval(!(1<<31)) eval((1<<31)&&1) eval((1<<31)||0)", "1 0 1 0 1 1");
        gives("eval(5-3-1) eval(2-3*4+1) eval(7&3==3) eval(1|2^3&1) eval(1<<2+1) eval(3>2==1) eval(2<1<1) eval(0||1&&0)", "1 -9 1 3 8 1 1 0");
    }

    private static void shiftCounts() {
        int[] counts = {0, 1, 30, 31, 32, 33, 63, 64, 999999999};
        for (int count : counts) {
            gives("eval(3<<" + count + ")", Integer.toString(3 << count));
            gives("eval(-9>>" + count + ")", Integer.toString(-9 >> count));
            gives("eval(3<<-" + count + ")", Integer.toString(3 << -count));
            gives("eval(999999999>>-" + count + ")", Integer.toString(999999999 >> -count));
        }
    }

    private static void divisions() {
        gives("eval(7/2) eval(-7/2) eval(7/-2) eval(-7/-2) eval(7%2) eval(-7%2) eval(7%-2) eval(-7%-2) eval(0/5)", "3 -3 -3 3 1 -1 1 -1 0");
        for (String text : new String[] {"1/0", "1%0", "0/0", "0&&1/0", "1||1/0", "(1/0)*0", "1/(2-2)", "-(1%0)", "1/0/0", "5/!1"}) {
            fails("\neval(" + text + ")", 39, 2);
        }
        for (String text : new String[] {"1/0+", "(1/0", "1/0)", "1/0 1", "1/0+1000000000", "1%0+" + "-".repeat(31) + "1"}) {
            fails("\neval(`" + text + "')", 38, 2);
        }
    }

    private static void expressionsThatAreNone() {
        for (String text : new String[] {"", " ", "\n", "()", "(", ")", "+", "1+", "1 1", "1(1)", "(1)1", "a", "1a", "*1", "1**2", "1?2:3", "1:2", "1=1", "1;",
            "1,", "\u00b9", "\0", "!", "1!", "1~1", "(1", "1)", "((1)", ")1("}) {
            fails("eval(`" + text + "')", 38, text.equals("\n") ? 2 : 1);
        }
    }

    private static void operatorsOfTwoSigns() {
        gives("eval(1||0) eval(1|0) eval(1&&0) eval(3&1) eval(1==1) eval(1!=1) eval(1<=1) eval(1>=2) eval(1<1) eval(2>1) eval(1<<1) eval(4>>1)",
                "1 1 0 1 1 0 1 0 0 1 2 2");
        gives("eval(1--1) eval(1++1) eval(1-+1) eval(2*-1) eval(1<-1) eval(1>!1) eval(1&~1) eval(1|-2) eval(1==-1) eval(1!=!1)", "2 2 0 -2 0 1 0 -1 0 1");
        for (String text : new String[] {"1| |0", "1& &1", "1= =1", "1! =1", "1< =1", "1> =1", "1|||0", "1&&&1", "1===1", "1!==1", "1<<<1", "1>>>1", "1<=>1",
            "1=!1", "1=<1", "1<>1", "1<<=1", "!=1", "1+!=1"}) {
            fails("eval(" + text + ")", 38, 1);
        }
        fails("eval(1< <1)", 38, 1);
    }

    private static void linesOfErrors() {
        // The byte behind a name is looked at, not taken.
        fails("define(`f',`incr(x)')f\n", 36, 1);
        fails("define(`f',`incr(x)')f()\n", 36, 1);
        fails("\n\ndefine(`a',`1\n\n')a\nincr(x)", 36, 6);
        fails("define(`a',`\n\n\nincr(x)')\na\n", 36, 5);
        fails("define(`a',`incr(')\na`'x\n)\n", 36, 3);
        fails("define(`a',\n`\n`')\n", 32, 2);
        fails("dnl x\ndnl\nincr(\n\nx\n,2)", 36, 6);
        fails("#\n#\nincr(x)", 36, 3);
        fails("`\n'incr(x)", 36, 2);
    }
}
