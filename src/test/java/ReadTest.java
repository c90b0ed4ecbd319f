/** Promise 4: what can be read, what is wrong, and what is too much. */
public final class ReadTest {
    private static final String SEVEN = "def a=1;def b=1;def c=1;def d=1;def e=1;def f=1;def g=1;";
    private static final String EIGHT = SEVEN + "def h=1;";
    private static final String[] HOLES = {"(_)", "[_]", "[_,1]", "[1,_]", "[1,1,_]", "\\x._", "if _ then 1 else 1",
        "if 1 then _ else 1", "if 1 then 1 else _", "1+(_)", "(_)(1)", "1:[_]"};

    public static void main(String[] args) {
        cellsOfTerms();
        anyTimesDefinitions();
        nothingMore();
        sixParameters();
        noTwoAlike();
        eightDefinitions();
        askedBehindTheSign();
        wrongTexts();
        oneComparison();
        fromTheLeft();
        emptyRow();
        eightWithinOneAnother();
        notDeeper();
        innermostName();
        firstDefinition();
        firstEightDefinitions();
        otherNames();
        wordsAsNames();
        order();
        Check.end("ReadTest");
    }

    private static void cells(String text, int cells) {
        Check.due("cells of " + text, Check.written(400, text).read(), cells);
    }

    private static void prints(String text, String due) {
        Check.due("what " + text + " prints", Check.printed(Check.ranOut(400, text)), due);
    }

    private static void cellsOfTerms() {
        Check.sentence("Reads the text, and begins: how many cells the terms have");
        cells("1", 0);
        cells("((1))", 0);
        cells("1 2 3", 2);
        cells("1 (2 3)", 2);
        cells("[1]", 2);
        cells("[1,2,3]", 6);
        cells("1:2:[]", 4);
        cells("1+2-3*4", 6);
        cells("1<2", 2);
        cells("1==2:[]", 4);
        cells("if 1<2 then 3 else 4", 5);
        cells("[if 1 then \\x.x else 3,\\x.x]", 7);
        cells("hd", 0);
        cells("def f=1 2;def g=1 2 3;1 2 3 4", 6);
        TurnerHeap heap = Check.read(100, "1 2");
        Check.due("it begins", heap.stopped() + heap.count(2) + heap.length(), 0);
    }

    private static void anyTimesDefinitions() {
        Check.sentence("any times def, a name, .. (at most 8); and then an expression");
        Check.due("none", Check.read(100, "2").count(0), 0);
        StringBuilder text = new StringBuilder();
        for (int n = 1; n <= 8; n++) {
            text.append("def ").append((char) ('a' + n)).append("=1;");
            Check.due("definitions", Check.read(100, text + "2").count(0), n);
            Check.wrong(text.toString());
            Check.wrong(text.substring(0, text.length() - 1));
        }
    }

    private static void nothingMore() {
        Check.sentence("and then an expression, the MAIN one, and nothing more");
        for (String more : new String[] {";", ")", "]", ",", ".", "=", "\\", "then", "else", "def", "def a=1;", "if", ";1", ")1"}) {
            Check.wrong("1" + more);
            Check.wrong("(1)" + more);
            Check.wrong("def a=1;1" + more);
        }
    }

    private static void sixParameters() {
        Check.sentence("at most six names (its PARAMETERS)");
        String[] parameters = {"", " a", " a b", " a b c", " a b c d", " a b c d e", " a b c d e g"};
        for (int n = 0; n <= 6; n++) {
            Check.due(n + " parameters", Check.read(100, "def f" + parameters[n] + "=1;2").form(0, 0), n);
        }
        prints("def f a b c d e g=[a,b,c,d,e,g];f 1 2 3 4 5 6", "1 2 3 4 5 6 ");
        Check.wrong("def f a b c d e g h=1;2");
        Check.wrong("def f a b c d e g h i=1;2");
        Check.wrong("def f a b c d e g a=1;2");
        Check.wrong("def f 1=1;2");
        Check.wrong("def f (a)=1;2");
    }

    private static void noTwoAlike() {
        Check.sentence("no two alike");
        Check.wrong("def f a a=1;2");
        Check.wrong("def f a b a=1;2");
        Check.wrong("def f b a a=1;2");
        Check.wrong("def f a b c d e a=1;2");
        Check.wrong("def f a b c d e e=1;2");
        Check.wrong("def f abcd a abcd=1;2");
        prints("def f a aa=[a,aa];f 1 2", "1 2 ");
        prints("def f abcd abce=[abcd,abce];f 1 2", "1 2 ");
        prints("def f f=f;f 3", "3");
        prints("def f a=a;def g a=a;f 1+g 2", "3");
        prints("(\\a.\\a.a)1 2", "2");
        prints("def f a=\\a.a;f 1 2", "2");
    }

    private static void eightDefinitions() {
        Check.sentence("IllegalStateException, when there would be more than 8 definitions");
        Check.due("8", Check.read(100, EIGHT + "2").count(0), 8);
        Check.tooMuch(EIGHT + "def i=1;2");
        Check.tooMuch(EIGHT + "def a=1;2");
        Check.tooMuch(EIGHT + "def i=1;def j=1;2");
    }

    private static void askedBehindTheSign() {
        Check.sentence("(asked behind the \"=\" of the ninth)");
        Check.tooMuch(EIGHT + "def i=");
        Check.tooMuch(EIGHT + "def i=)");
        Check.tooMuch(EIGHT + "def i=x;2");
        Check.tooMuch(EIGHT + "def i a b c d e f=");
        Check.wrong(EIGHT + "def i");
        Check.wrong(EIGHT + "def =1;2");
        Check.wrong(EIGHT + "def i==1;2");
        Check.wrong(EIGHT + "def i a a=1;2");
        Check.wrong(EIGHT + "def i a b c d e f g=1;2");
        Check.wrong(SEVEN + "def h=x;def i=1;2");
        Check.wrong(SEVEN + "def h=1,def i=1;2");
    }

    private static void wrongTexts() {
        Check.sentence("What can't be read so, is WRONG");
        String[] texts = {
            "", "x", "def", "def f", "def f =", "def f = 1", "def f = 1;", "def = 1; 2", "def 1 = 1; 2", "def f = ; 2",
            "def f = 1, 2", "f = 1; f", "1;", "1 2)", "(1", "(", ")", "()", "[", "]", "[1", "[1,", "[1,]", "[,1]", "[,]",
            "[1 2;3]", "[1,2)", "(1]", "(1,2)", ",", "1 <", "< 1", "1 == ", "== 1", "1 = 1", "1 +", "+ 1", "- 1", "-1",
            "1 * * 2", "1 + - 2", "1 :", ": 1", "1 : : 2", "1 * ", "* 1", "if", "if 1", "if 1 then", "if 1 then 2",
            "if 1 then 2 else", "if 1 else 2 then 3", "if then 1 else 2", "if 1 then else 2", "then", "else",
            "1 if 1 then 2 else 3", "1 + if 1 then 2 else 3", "1 + \\x.x", "1 \\x.x", "1 : \\x.x", "\\", "\\x", "\\x.",
            "\\x x", "\\.1", "\\1.1", "\\x y.x", "\\x,x", "1 def f = 2; 3", "(def f = 1; 2)", "1 then 2", "1 . 2", ".", ";",
            "1 2 3 @",
        };
        for (String text : texts) {
            Check.wrong(text);
        }
        prints("(if 1<2 then 2 else 3)+1", "3");
        prints("1:(\\x.x)[]", "1 ");
    }

    private static void oneComparison() {
        Check.sentence("comparison: sum, perhaps \"<\" or \"==\" and a sum");
        prints("1<2", "t");
        prints("2==1+1", "t");
        Check.wrong("1<2<3");
        Check.wrong("1==2==3");
        Check.wrong("1<2==3");
        Check.wrong("1==2<3");
        cells("(1<2)<3", 4);
        prints("1<2:2<1:[]", "t f ");
        prints("1+1<1+2", "t");
    }

    /** What is evaluated first tells from which side it was put together. */
    private static void fromTheLeft() {
        Check.sentence("sum: .. any times .., from the left; product: any times; application: from the left");
        prints("9-3-2", "4");
        prints("9-3+2", "8");
        prints("2+3*4", "14");
        prints("2*3+4", "10");
        prints("2*3*4*5", "120");
        prints("2*(\\x.x+1)3", "8");
        prints("1:2:3:[]", "1 2 3 ");
        prints("(\\x.\\y.x-y)5 3", "2");
        prints("(\\x.x)(\\x.x)(\\x.x)4", "4");
        Check.due("1*2 is done, then hd is wrong", Check.fate(100, "1*2*hd"), "|2|2");
        Check.due("1-2 is done, then hd is wrong", Check.fate(100, "1-2-hd"), "|2|2");
        cells("1" + Check.times("*1", 49), 98);
    }

    private static void emptyRow() {
        Check.sentence("\"[\" perhaps expressions with \",\" between \"]\"");
        cells("[]", 0);
        Check.due("NIL", Check.read(40, "[]").form(-1, 2), 17);
        prints("[]", "");
        prints("[7]", "7 ");
        prints("[7,8]", "7 8 ");
        cells("[1" + Check.times(",1", 48) + "]", 98);
        cells("[" + Check.times("[],", 32) + "1]", 66);
        Check.wrong("[,]");
        Check.wrong("[1,]");
    }

    private static String nested(String hole, int times) {
        String text = "1";
        for (int i = 0; i < times; i++) {
            text = hole.replace("_", text);
        }
        return text;
    }

    private static void eightWithinOneAnother() {
        Check.sentence("An expression that stands in another one lies one deeper; at most 8");
        for (String hole : HOLES) {
            for (String before : new String[] {"", "def f=1;", "def f a b c d e g=1;"}) {
                Check.due(before + nested(hole, 7), Check.written(400, before + nested(hole, 7)).read() >= 0, true);
                Check.tooMuch(before + nested(hole, 8));
            }
            for (String head : new String[] {"def f=", "def f a b c d e g="}) {
                Check.due(head + nested(hole, 7), Check.written(400, head + nested(hole, 7) + ";1").read() >= 0, true);
                Check.tooMuch(head + nested(hole, 8) + ";1");
            }
            for (String other : HOLES) {
                String mixed = hole.replace("_", nested(other, 6));
                Check.due(mixed, Check.written(400, mixed).read() >= 0, true);
                Check.tooMuch(hole.replace("_", nested(other, 7)));
            }
        }
        Check.tooMuch(Check.times("(", 8));
        Check.wrong(Check.times("(", 7));
        Check.tooMuch(Check.times("if ", 8));
        Check.wrong(Check.times("if ", 7));
        Check.tooMuch(Check.times("\\x.", 8));
        Check.wrong(Check.times("\\x.", 7));
        Check.wrong(Check.times("\\x.", 7) + "\\x");
        cells(Check.times("[", 8) + Check.times("]", 8), 14);
        Check.tooMuch(Check.times("[", 9) + Check.times("]", 9));
    }

    private static void notDeeper() {
        Check.sentence("(what stands beside an expression lies no deeper)");
        cells("1" + Check.times(":1", 49), 98);
        cells("1" + Check.times("+1", 49), 98);
        cells("1" + Check.times(" 1", 99), 99);
        cells(Check.times("(1)", 33), 32);
        cells(Check.times("[]", 50), 49);
        cells("[" + Check.times("(1),", 20) + "1]", 42);
        cells(Check.times("(", 7) + "1" + Check.times(")", 7) + Check.times("(", 7) + "1" + Check.times(")", 7), 1);
    }

    private static void innermostName() {
        Check.sentence("A name means the innermost parameter or name of a \"\\\" around it");
        prints("(\\x.(\\x.x) 2 + x) 1", "3");
        prints("(\\x.\\x.x) 1 2", "2");
        prints("def f x=(\\x.x) 5+x; f 6", "11");
        prints("(\\x.(\\y.x+y) 2) 1", "3");
        prints("def f f=f; f 5", "5");
        prints("(\\tl.tl) 4", "4");
        prints("def a=1;(\\a.a) 2+a", "3");
        Check.wrong("(\\x.x) x");
        Check.wrong("def f x=1; x");
        Check.wrong("def f x=1; def g=x; 1");
        Check.wrong("[\\x.x,x]");
    }

    private static void firstDefinition() {
        Check.sentence("else the first of the first eight definitions with it, anywhere in the text; else hd, tl or nul");
        prints("def a=1;def b=3;def a=2;a", "1");
        prints("def a=b;def b=3;a", "3");
        prints("def a=1;def a=a+1;a", "1");
        prints("def hd=7; hd", "7");
        prints("def x=nul [];def nul l=5;x", "5");
        prints("hd (tl [1,2])", "2");
        prints("nul []", "t");
    }

    private static void firstEightDefinitions() {
        Check.sentence("(the first eight definitions)");
        prints("def a=h;def b=1;def c=1;def d=1;def e=1;def f=1;def g=1;def h=8;a", "8");
        Check.wrong(SEVEN + "def h=i;def i=1;2");
        Check.wrong("def a=i;def b=1;def c=1;def d=1;def e=1;def f=1;def g=1;def h=1;def i=1;2");
        Check.tooMuch(SEVEN + "def h=a;def i=1;2");
        Check.tooMuch(SEVEN + "def h=hd;def hd=1;2");
    }

    private static void otherNames() {
        Check.sentence("and another name, is WRONG");
        for (String name : new String[] {"x", "h", "hdd", "t", "tll", "nu", "null", "main", "cons", "nil", "true", "head"}) {
            Check.wrong(name);
            Check.wrong("def y=" + name + ";1");
            Check.wrong("\\y." + name);
        }
        Check.wrong("def f=1;ff");
        Check.wrong("def ff=1;f");
    }

    private static void wordsAsNames() {
        Check.sentence("atom: number | name that is no word");
        for (String word : new String[] {"def", "if", "then", "else"}) {
            Check.wrong(word);
            Check.wrong("(" + word + ")");
            Check.wrong("1 " + word);
            Check.wrong("\\" + word + "." + word);
            Check.wrong("def f " + word + "=" + word + ";1");
            Check.wrong("def " + word + "=1;" + word);
            prints("def " + word + "=1;2", "2");
            prints("def f " + word + "=3;f 2", "3");
            prints("(\\" + word + ".4) 2", "4");
        }
    }

    private static void order() {
        Check.sentence("(the first thing that is not as it must be is told)");
        Check.wrong("x" + Check.times("(", 9));
        Check.tooMuch(Check.times("(", 9) + "x");
        Check.wrong(")" + Check.times("(", 9));
        Check.tooMuch("def f=" + Check.times("(", 9) + ";def g g g=1");
        Check.wrong("def g a a=1;" + Check.times("(", 9));
    }
}
