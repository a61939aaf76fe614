/** Promise 7 with stage 1, and what it tells: the first processor. */
public final class FirstTest {
    public static void main(String[] args) {
        tokens();
        arguments();
        texts();
        defining();
        choosing();
        values();
        expressions();
        parts();
        diversions();
        quotes();
        errors();
        linesOfErrors();
        Bench.finish("FirstTest");
    }

    private static void gives(String text, String want) {
        Bench.gives(1, text, want);
    }

    private static void fails(String text, int error, int line) {
        Bench.fails(1, text, error, line);
    }

    private static void tokens() {
        gives("", "");
        gives("plain text, (with) signs\n", "plain text, (with) signs\n");
        gives("`quoted' ``twice'' `'", "quoted `twice' ");
        gives("`a `b' c' d", "a `b' c d");
        gives("# define(`x',1) `no end\nx", "# define(`x',1) `no end\nx");
        gives("#", "#");
        gives("define(`x',1)x x1 _x x_ 1x x", "1 x1 _x x_ 11 1");
        gives("define(`x',`y')define(`y',`z')x `x' ``x''", "z x `x'");
        gives("define(`x1_',Q)x1_", "Q");
        gives("define(`a',1)\u00e9a\u0000", "\u00e91\u0000");
    }

    private static void arguments() {
        String f = "define(`f',`<$1|$2|$#>')define(`e',`')define(`g',`G')";
        gives(f + "f", "<||0>");
        gives(f + "f()", "<||1>");
        gives(f + "f (a)", "<||0> (a)");
        gives(f + "f(a)f(a,b)f(a,b,c)", "<a||1><a|b|2><a|b|3>");
        gives(f + "f( a , b )", "<a |b |2>");
        gives(f + "f( \t\n\u000b\f\ra,\n)", "<a||2>");
        gives(f + "f(`' a, e b)", "< a| b|2>");
        gives(f + "f(`,',`)')", "<,|)|2>");
        gives(f + "f((a,b),c)", "<(a,b)|c|2>");
        gives(f + "f(((),),c)", "<((),)|c|2>");
        gives(f + "f(`('a,b`)')", "<(a|b)|2>");
        gives(f + "f(g,`g')", "<G|G|2>");
        gives(f + "f(``g'')", "<g||1>");
        gives(f + "f(# a,b)\n,c)", "<# a,b)\n|c|2>");
        gives(f + "f(f(a,b),f)", "<<a|b|2>|<||0>|2>");
        gives(f + "f(define(`k',K)k,k)", "<K|K|2>");
        gives(f + "f(dnl x,y)\nz)", "<z||1>");
        gives(f + "f(define)f(define,len)", "<define||1><define|len|2>");
        gives("define(`sp',` x')define(`f',`<$1>')f(sp)", "< x>");
        gives("define(`c',`,')define(`f',`<$1|$2>')f(a`'c`'b)", "<a|b>");
        gives("define(`f',`F')f(undefine(`f'))x f", "x f");
        gives("define(`f',`F')f(define(`f',`H')) f", "H H");
        gives("define(`f',`F')pushdef(`f',`P')f(popdef(`f'))", "F");
    }

    private static void texts() {
        gives("define(`f',`$1 $2 $9 $# $* $@ $$1 $a $10 $')f(x,y)", "x y  2 x,y x,y $x $a x0 $");
        gives("define(`f',``$0'($1)')f(x)f", "f(x)f()");
        gives("define(`f',`$@')define(`x',X)f(`x',x,`a,b')", "x,X,a,b");
        gives("define(`f',``$@'')f(`x',b)", "`x',`b'");
        gives("define(`f',`$*')define(`x',X)f(`x',`y')", "X,y");
        gives("define(`f',``$#$*$@'')f", "0");
        gives("define(`f',``$#$*$@'')f()", "1`'");
        gives("define(`f',`$9$1')f(1,2,3,4,5,6,7,8,9,10)", "91");
        gives("changequote([,])define([f],[[$@]])f(a,[b])", "[a],[b]");
        gives("define(`f',`[$-1]')f(a)", "[$-1]");
    }

    private static void defining() {
        gives("define(`a',1)define(`a',2)a popdef(`a')a", "2 a");
        gives("define(`a',1)pushdef(`a',2)a popdef(`a')a popdef(`a')a", "2 1 a");
        gives("pushdef(`a',1)pushdef(`a',2)define(`a',3)a popdef(`a')a", "3 1");
        gives("pushdef(`a',1)pushdef(`a',2)undefine(`a')a", "a");
        gives("define(`a',1)define(`b',2)undefine(`a',`zz',`b')a b", "a b");
        gives("define(`a',1)define(`b',2)popdef(`a',`b',`b')a b", "a b");
        gives("define(`a')a|define(`b',1,2)b", "|1");
        gives("define define (x) len incr", "define define (x) len incr");
        gives("define(`len',`L$1')len len(abc) popdef(`len')len(abc)", "L Labc len(abc)");
        gives("pushdef(`len',`L')len popdef(`len')len(abc) len", "L 3 len");
        gives("undefine(`define')define(`a',1)a", "define(a,1)a");
        gives("define(`d',`define(`$1',`$2')')d(a,1)a", "1");
        gives("ifdef(`define',1,2)ifdef(`nope',1,2)ifdef(`dnl',1)ifdef(`nope',1)ifdef(`a b',1,2)", "1212");
    }

    private static void choosing() {
        gives("ifelse()ifelse(a)ifelse(a,a)ifelse(,)|", "|");
        gives("ifelse(a,a,x) ifelse(a,b,x)|", "x |");
        gives("ifelse(a,b,x,y) ifelse(a,a,x,y)", "y x");
        gives("ifelse(a,b,x,y,z)", "y");
        gives("ifelse(a,b,x,c,c,y) ifelse(a,b,x,c,d,y)|", "y |");
        gives("ifelse(a,b,x,c,d,y,w) ifelse(a,b,x,c,d,y,w,v)", "w w");
        gives("ifelse(a,b,x,c,d,y,e,e,z) ifelse(a,b,x,c,d,y,e,f,z)|", "z |");
        gives("ifelse(,,x)", "x");
    }

    private static void values() {
        gives("incr(41) incr() decr(0) decr(-9) incr(-1) incr(999999999) decr(-999999999)",
                "42 1 -1 -10 0 1000000000 -1000000000");
        gives("incr(007,x) incr(-0)", "8 1");
        gives("len() len(abc) len(`a,b') len(a,b)", "0 3 3 1");
        gives("index(stone,on) index(stone,x) index(stone,`') index(stone) index(,) index(,a) index(aab,ab)",
                "2 -1 0 0 0 -1 1");
        gives("shift(a)shift()|shift(a,b)|shift(a,b,`c,d')", "|b|b,c,d");
        gives("define(`f',`$2')f(shift(a,`b,c',`d'))", "d");
        gives("a dnl gone\nb dnl", "a b ");
        gives("a dnl(x,y)gone\nb", "a b");
    }

    private static void expressions() {
        gives("eval(7*(3-1)%4<<2) eval(1+2*3) eval((1+2)*3) eval(10-4-3) eval(100/10/5) eval(2*3%4)", "8 7 9 3 2 2");
        gives("eval(-7/2) eval(-7%3) eval(7/-2) eval(7%-3) eval(!0) eval(!5) eval(~5) eval(- -1) eval(!-1) eval(+5)",
                "-3 -1 -3 1 1 0 -6 1 0 5");
        gives("eval(1<2<3) eval(3>2>1) eval(1==1!=0) eval(5&3|4^1) eval(1||0&&0) eval(6^3&5) eval(1|2==2)", "1 0 1 5 1 7 1");
        gives("eval(1<=1) eval(1>=2) eval(2!=2) eval(0&&1) eval(2&&1) eval(0||0) eval(0||7)", "1 0 0 0 1 0 1");
        gives("eval( 1 \n+\t2 ) eval(010) eval(000000009)", "3 10 9");
        gives("eval(1<<31) eval(1<<33) eval((1<<31)>>31) eval((1<<31)/-1) eval((1<<31)%-1) eval(-(1<<31))",
                "-2147483648 2 -1 -2147483648 0 -2147483648");
        gives("eval(999999999*999999999) eval(999999999+999999999+999999999)", "808348673 -1294967299");
        gives("eval(" + "(".repeat(30) + "1" + ")".repeat(30) + ") eval(" + "-".repeat(30) + "1)", "1 1");
        gives("eval(" + "(-".repeat(15) + "1" + ")".repeat(15) + ",x)", "-1");
        String[] bad = {"", " ", "1 2", "+", "1+", "(1", "1)", "()", "1!=", "!=1", "1= =2", "1===2", "1&&&1", "1<<<1", "a", "0x1",
            "1?2:3", "1;2", "9999999999", "0000000001", "1 < = 2", "1/0+", "(1/0", "~", "1~2", "1<>2", "1|| |1", "1=2", "1 !2",
            "(".repeat(31) + "1" + ")".repeat(31), "-".repeat(31) + "1", "(-".repeat(15) + "(1" + ")".repeat(16)};
        for (String text : bad) {
            fails("eval(`" + text + "')", 38, 1);
        }
        String[] divided = {"1/0", "1%0", "0&&1/0", "1||1/0", "(1/0)*0", "1/(2-2)"};
        for (String text : divided) {
            fails("eval(" + text + ")", 39, 1);
        }
    }

    private static void parts() {
        gives("substr(garden,2,3) substr(garden,2) substr(garden) substr(garden,,2)", "rde rden garden ga");
        gives("substr(garden,5,9)|substr(garden,6)|substr(garden,-1)|substr(garden,0,-1)|substr(garden,1,)|substr(garden,99,1)|",
                "n||||||");
        gives("substr()|substr(`a,b',1)", "|,b");
    }

    private static void diversions() {
        gives("a divert(1)b divert(2)c divert(0)d ", "a d b c ");
        gives("divert(2)two divert(1)one divert`'zero ", "zero one two ");
        gives("a divert(-1)b divert(-5)c divert()d", "a d");
        gives("divert(1)x`'divert(2)y`'divert(0)undivert(2,1)|", "yx|");
        gives("divert(1)x`'divert(2)y`'divert(0)undivert|", "xy|");
        gives("divert(1)x`'divert(2)y`'divert(0)undivert()|", "xy|");
        gives("divert(1)x`'divert(2)y`'divert(0)undivert(,)|", "|xy");
        gives("divert(1)x`'undivert(1)undivert(0)undivert(12)undivert(-3)y", "xy");
        gives("divert(1)x`'divert(2)y`'undivert(1)divert(0)z", "zyx");
        gives("divert(1)x`'divert(-1)undivert(1)divert(0)z", "z");
        gives("divert(1)x`'divert(0)undivert(1)undivert(1)z", "xz");
        gives("divert(9)x`'divert(1)a`'divert(-1)b", "ax");
        gives("define(`f',`<$1>')divert(1)x`'divert(0)f(undivert(1)y)", "x<y>");
        gives("define(`f',`<$1>')f(divert(1)y)z", "<y>z");
    }

    private static void quotes() {
        gives("changequote([,])[a [b] c]`x'", "a [b] c`x'");
        gives("changequote(<<,>>)<<a <<b>> c>> <x>", "a <<b>> c <x>");
        gives("changequote(!,!)!a! b!c,!", "a bc,");
        gives("changequote([,])changequote`a'", "a");
        gives("changequote([,])changequote([{],[}],[zz]){a}[b]", "a[b]");
        gives("changequote(`\u00e9\u0000+-',`*')\u00e9\u0000+-x*", "x");
        gives("changequote(<,<<)<a<b<<<<", "a<b<<");
        fails("\nchangequote([)", 37, 2);
        fails("changequote()", 37, 1);
        fails("changequote([,)", 37, 1);
        fails("changequote(,])", 37, 1);
        fails("changequote([,+++++)", 37, 1);
        fails("changequote(+\n,-)", 37, 2);
        for (String text : new String[] {"a", "_", "1", "+ +", "+\t", "`#'", "`('", "`)'", "`,'"}) {
            fails("changequote(" + text + "+,-)", 37, 1);
            fails("changequote(-,+" + text + "+)", 37, 1);
        }
    }

    private static void errors() {
        fails("a\n`b\nc", 32, 2);
        fails("`a `b' c", 32, 1);
        fails("len(a\nb,c\n", 33, 3);
        fails("len(`a)'", 33, 1);
        fails("len(# )", 33, 1);
        for (String name : new String[] {"", "1", "a b", "a-", "`a,b'", "\u00e9"}) {
            fails("define(" + name + ",x)", 35, 1);
            fails("pushdef(" + name + ")", 35, 1);
        }
        fails("define(a,1)a define(a,2)", 35, 1);
        for (String text : new String[] {"x", "1 ", "--1", "-", "+1", "1234567890", "-1234567890", "1x", "`1,'", "0x1"}) {
            fails("incr(" + text + ")", 36, 1);
            fails("decr(" + text + ")", 36, 1);
            fails("substr(abc," + text + ")", 36, 1);
            fails("substr(abc,9," + text + ")", 36, 1);
            fails("divert(" + text + ")", 36, 1);
            fails("undivert(" + text + ")", 36, 1);
            fails("undivert(1," + text + ")", 36, 1);
        }
        fails("divert(10)", 36, 1);
    }

    private static void linesOfErrors() {
        fails("\n\ndefine(`a',`1\n\n')a\nincr(x)", 36, 6);
        fails("define(`a',`\n\n\nincr(x)')\na\n", 36, 5);
        fails("define(`a',`incr(')\na`'x\n)\n", 36, 3);
        fails("define(`a',\n`\n`')\n", 32, 2);
        fails("dnl x\ndnl\nincr(\n\nx\n,2)", 36, 6);
        fails("incr(x)\n", 36, 1);
    }
}
