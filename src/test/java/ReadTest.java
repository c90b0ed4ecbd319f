/** Promise 4: what can be read, what is wrong, and what is too much. */
public final class ReadTest {
    private static final String FOUR_HUNDRED =
        "def f a b c d e g=\\h.\\i.\\j.\\k.\\l.(c c g)(i b g)k(a k h)e(i e)(j a d c)(b b b)"
        + "i i b b(l g)(d l)(k j)(l e);";
    private static final String MORE =
        "def f a b c d e g=\\h.\\i.\\j.\\k.\\l.(b k d d)(k c i k a)i k(d e c j l)j(j k)(i g)l"
        + "(l d h l)(e b b)(i h g i)(a a g b a)(g e d);";

    public static void main(String[] args) {
        lexemes();
        lexemeBounds();
        shapes();
        wrongTexts();
        names();
        definitions();
        depth();
        size();
        order();
        afterAThrow();
        Check.end("ReadTest");
    }

    private static void cut(String text, int lexemes) {
        TurnerHeap heap = Check.read(400, text);
        Check.due("lexemes of " + text, heap.count(1), lexemes);
    }

    private static void lexemes() {
        cut("1", 1);
        cut(" \n 1 \n ", 1);
        cut("123456", 1);
        cut("1234567", 2);
        cut("1234567890123", 3);
        cut("1==1", 3);
        cut("1 <2", 3);
        cut("def abcd=1;abcd", 6);
        cut("def e=1;def abcd=1;abcde", 12);
        cut("def defx=1;defx", 6);
        cut("[1,2]:[]", 8);
        cut("def a=1;a 1a1", 9);
    }

    private static void lexemeBounds() {
        String hundred = Check.times("1 ", 100);
        cut(hundred, 100);
        Check.tooMuch(hundred + "1");
        Check.tooMuch(hundred + ")");
        Check.tooMuch(") " + hundred);
        Check.wrong("A" + hundred);
        Check.wrong(hundred + "A");
        Check.tooMuch(hundred + "1A");
    }

    private static void cells(String text, int cells) {
        Check.due("cells of " + text, Check.written(400, text).read(), cells);
    }

    private static void shapes() {
        cells("1", 0);
        cells("((1))", 0);
        cells("1 2 3", 2);
        cells("1 (2 3)", 2);
        cells("[]", 0);
        cells("[1]", 2);
        cells("[1,2,3]", 6);
        cells("1:2:[]", 4);
        cells("1+2-3*4", 6);
        cells("1<2", 2);
        cells("1==2:[]", 4);
        cells("if 1<2 then 3 else 4", 5);
        cells("[if 1 then \\x.x else 3,\\x.x]", 7);
        cells("hd", 0);
        cells("def f=1 2;def g=1 2 3;1 2 3 4", 6);
        Check.due("- from the left", Check.fate(100, "9-3-2"), "4|1|5");
        Check.due("* before +", Check.fate(100, "2+3*4"), "14|1|5");
        Check.due("application before *", Check.fate(100, "2*(\\x.x+1)3"), "8|1|6");
        Check.due(": from the right", Check.fate(100, "1:2:3:[]"), "1 2 3 |1|4");
        Check.due("< before :", Check.fate(100, "1<2:2<1:[]"), "t f |1|7");
        Check.due("+ before <", Check.fate(100, "1+1<1+2"), "t|1|7");
    }

    private static void wrongTexts() {
        String[] texts = {
            "", " ", "\n", "x", "A", "1 _", "{1}", "1/2", "'", "~", "#", "1 1.", "def", "def f", "def f =", "def f = 1",
            "def f = 1;", "def = 1; 2", "def 1 = 1; 2", "def f 1 = 1; 2", "def f x x = 1; 2", "def f a b a = 1; 2",
            "def f a b c d e g h = 1; 2", "def f == 1; 2", "def f = 1, 2", "f = 1; f", "1;", "1 2)", "(1", "(", ")",
            "()", "[", "]", "[1", "[1,", "[1,]", "[,1]", "[1 2;3]", "[1,2)", ",", "1 < 2 < 3", "1 == 2 == 3", "1 < 2 == 3", "1 <",
            "< 1", "1 == ", "1 = 1", "1 +", "+ 1", "- 1", "-1", "1 * * 2", "1 + - 2", "1 :", ": 1", "if", "if 1",
            "if 1 then", "if 1 then 2", "if 1 then 2 else", "if 1 else 2 then 3", "then", "else", "1 if 1 then 2 else 3",
            "1 + if 1 then 2 else 3", "1 + \\x.x", "1 \\x.x", "\\", "\\x", "\\x.", "\\x x", "\\.1", "\\1.1", "\\x y.x", "\\x.y",
            "(\\x.x) x", "1 def f = 2; 3", "1 then 2", "1 == = 2", "1 === 2", "abcde", "def abcd = 1; abcde", "nula", "def f x = 1; x",
            "1 2 3 @",
        };
        for (String text : texts) {
            Check.wrong(text);
        }
        Check.wrong(Check.times(" ", 239) + "=");
        Check.wrong(Check.times(" ", 236) + "1 ==");
    }

    private static void names() {
        Check.due("the innermost", Check.fate(100, "(\\x.(\\x.x) 2 + x) 1"), "3|1|4");
        Check.due("a parameter before a definition", Check.fate(100, "def f f=f; f 5"), "5|1|3");
        Check.due("a definition before hd", Check.fate(100, "def hd=7; hd"), "7|1|2");
        Check.due("a parameter before tl", Check.fate(100, "(\\tl.tl) 4"), "4|1|2");
        Check.due("the first with it", Check.fate(100, "def a=1;def b=3;def a=2;a"), "1|1|2");
        Check.due("a later one", Check.fate(100, "def a=b;def b=3;a"), "3|1|3");
        Check.due("words are names where no atom stands", Check.fate(100, "def if then=1;2"), "2|1|1");
        Check.due("and in a function", Check.fate(100, "(\\def.1) 2"), "1|1|3");
        for (String word : new String[] {"def", "if", "then", "else"}) {
            Check.wrong("\\" + word + "." + word);
            Check.wrong("\\" + word + ".1 " + word);
        }
        Check.wrong("def if = 1; if");
    }

    private static void definitions() {
        String seven = "def a=1;def b=1;def c=1;def d=1;def e=1;def f=1;def g=1;";
        Check.due("8 definitions", Check.read(100, seven + "def h=1;2").count(0), 8);
        Check.tooMuch(seven + "def h=1;def i=1;2");
        Check.tooMuch(seven + "def h=1;def i a b c d e f=");
        Check.wrong(seven + "def h=1;def i");
        Check.wrong(seven + "def h=1;def i a a=1;2");
        Check.wrong(seven + "def h=1;def i a b c d e f g=1;2");
        Check.wrong(seven + "def h=i;def i=1;2");
        Check.tooMuch(seven + "def h=a;def a=1;2");
        Check.due("6 parameters", Check.fate(100, "def f a b c d e g=g;f 1 2 3 4 5 6").substring(0, 3), "6|1");
    }

    private static void depth() {
        cells(Check.times("(", 7) + "1" + Check.times(")", 7), 0);
        Check.tooMuch(Check.times("(", 8) + "1" + Check.times(")", 8));
        Check.tooMuch(Check.times("(", 8));
        Check.wrong(Check.times("(", 7));
        cells(Check.times("[", 8) + Check.times("]", 8), 14);
        Check.tooMuch(Check.times("[", 9) + Check.times("]", 9));
        cells(Check.times("[1,", 7) + "1" + Check.times("]", 7), 28);
        Check.tooMuch(Check.times("[1,", 8) + "1" + Check.times("]", 8));
        cells(Check.times("\\x.", 7) + "1", 7);
        Check.tooMuch(Check.times("\\x.", 8) + "1");
        cells(Check.times("if 1 then 1 else ", 7) + "1", 21);
        Check.tooMuch(Check.times("if 1 then 1 else ", 8) + "1");
        Check.tooMuch(Check.times("if ", 8) + "1");
        Check.tooMuch("def f=" + Check.times("(", 8) + "1" + Check.times(")", 8) + ";1");
        cells("1" + Check.times(":1", 49), 98);
        cells("1" + Check.times("+1", 49), 98);
        cells("(1)(1)(1)(1)(1)(1)(1)(1)(1)(1)", 9);
    }

    private static void size() {
        cells(FOUR_HUNDRED + "f", 400);
        Check.tooBig(400, FOUR_HUNDRED + "f 1");
        Check.tooBig(400, MORE + "f");
        Check.tooBig(400, "def a=1 2;" + FOUR_HUNDRED + "f");
    }

    private static void order() {
        Check.wrong("x" + Check.times("(", 9));
        Check.tooMuch(Check.times("(", 9) + "x");
        Check.wrong(Check.times("(", 9) + "A");
        Check.wrong(MORE + "x");
        Check.tooMuch(MORE + "((((((((1");
    }

    private static void afterAThrow() {
        TurnerHeap heap = Check.ran(100, "1:[]", 1);
        Check.rewrite(heap, "def a=1;((");
        Check.throwsDue("read", IllegalArgumentException.class, heap::read);
        Check.due("stopped", heap.stopped(), -1);
        Check.due("length", heap.length(), 0);
        for (int what = 0; what <= 4; what++) {
            Check.due("count " + what, heap.count(what), 0);
        }
        Check.throwsDue("form", IndexOutOfBoundsException.class, () -> heap.form(-1, 0));
        Check.throwsDue("run", IllegalStateException.class, () -> heap.run(1));
        Check.throwsDue("reached", IllegalStateException.class, heap::reached);
        Check.due("the text stays", heap.erase(), 10);
        Check.write(heap, "2");
        Check.due("it is read", heap.read(), 0);
        Check.due("and begins", heap.stopped(), 0);
        heap.run(1);
        Check.due("and ends", Check.printed(heap), "2");
        Check.due("read again begins again", heap.read(), 0);
        Check.due("with nothing out", heap.length() + heap.count(2) + heap.stopped(), 0);
    }
}
