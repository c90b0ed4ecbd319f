/** Promise 11, and the rules by which names are taken out. */
public final class FormTest {
    public static void main(String[] args) {
        heads();
        rules();
        toldByForm();
        parameters();
        asItWasRead();
        wrongCalls();
        Check.end("FormTest");
    }

    private static void form(TurnerHeap heap, int definition, String what, int applications, int toLeft, int head) {
        Check.due(what + ": applications", heap.form(definition, 0), applications);
        Check.due(what + ": to the left", heap.form(definition, 1), toLeft);
        Check.due(what + ": head", heap.form(definition, 2), head);
    }

    private static void form(String text, int applications, int toLeft, int head) {
        form(Check.read(400, text), -1, text, applications, toLeft, head);
        String definition = "def d=" + text + ";0";
        form(Check.read(400, definition), 0, definition, applications, toLeft, head);
    }

    private static void heads() {
        form("5", 0, 0, 0);
        form("5 6 (7 8)", 3, 2, 0);
        form("if 1 then 2 else 3", 3, 3, 10);
        form("1+2", 2, 2, 11);
        form("1-2", 2, 2, 12);
        form("1*2", 2, 2, 13);
        form("1<2", 2, 2, 14);
        form("1==2", 2, 2, 15);
        form("1:2", 2, 2, 16);
        form("[1,2]", 4, 2, 16);
        form("[]", 0, 0, 17);
        form("hd 1", 1, 1, 18);
        form("tl", 0, 0, 19);
        form("nul 1 2", 2, 2, 20);
        TurnerHeap heap = Check.read(100, "def a=b 1;def b=a;b 1 2");
        form(heap, 0, "a", 1, 1, 1);
        form(heap, 1, "b", 0, 0, 1);
        form(heap, -1, "main", 2, 2, 1);
    }

    private static void rules() {
        form("\\x.x", 0, 0, 2);
        form("\\x.1", 1, 1, 3);
        form("\\x.1 2", 2, 1, 3);
        form("\\x.1 x", 0, 0, 0);
        form("\\x.1 2 x", 1, 1, 0);
        form("\\x.hd 1 (2 x)", 3, 3, 8);
        form("\\x.hd (1 x)", 2, 2, 5);
        form("\\x.hd (1 x) 2", 3, 3, 9);
        form("\\x.x 1", 2, 2, 6);
        form("\\x.hd 1 (2 x) 3", 5, 2, 6);
        form("\\x.hd (1 x) x", 3, 3, 7);
        form("\\x.hd (1 x) (2 x)", 3, 3, 7);
        form("\\x.x x", 2, 2, 4);
        form("\\x.\\y.x", 0, 0, 3);
        form("\\x.\\y.y", 1, 1, 3);
        form("\\x.x:x", 2, 2, 4);
        form("\\x.[x]", 2, 2, 6);
        form("\\f.\\g.\\x.f x (g x)", 0, 0, 4);
        form("\\f.\\g.\\x.f (g x)", 0, 0, 5);
        form("\\f.\\x.\\y.f y x", 0, 0, 6);
    }

    private static void toldByForm() {
        form("\\x.(\\y.1) x", 1, 1, 3);
        form("\\x.(\\y.1) x 2", 2, 1, 3);
        form("\\x.(\\y.hd) x x", 0, 0, 18);
        form("\\x.(\\y.hd) x (1 x)", 2, 2, 5);
        form("\\x.(\\y.hd 1) x (2 x)", 3, 3, 8);
        form("\\x.x ((\\y.1) x)", 2, 2, 6);
        form("\\x.(\\y.hd (1 y)) x 2", 3, 3, 9);
        form("\\x.(\\y.hd (1 y)) x x", 3, 3, 7);
        form("\\x.hd ((\\y.y) x)", 0, 0, 18);
        form("\\x.(\\y.1) x ((\\z.2) x)", 2, 1, 3);
    }

    private static void parameters() {
        form(Check.read(100, "def f a b=b a;1"), 0, "the last one first", 1, 1, 6);
        form(Check.read(100, "def f a b=a;1"), 0, "f a b = a", 0, 0, 3);
        form(Check.read(100, "def f a b=b;1"), 0, "f a b = b", 1, 1, 3);
        form(Check.read(100, "def f a=\\a.a;1"), 0, "f a = \\a.a", 1, 1, 3);
        form(Check.read(100, "def f a b=\\c.a b c;1"), 0, "f a b = \\c.a b c", 0, 0, 2);
        form(Check.read(100, "def f a b c d e g=1;1"), 0, "six that are not used", 6, 1, 3);
    }

    private static void asItWasRead() {
        String text = "def a=1+2;def b=3;a+b";
        TurnerHeap heap = Check.ran(100, text, 500);
        Check.due(text, Check.printed(heap), "6");
        form(heap, -1, "main, when it has ended", 2, 2, 11);
        form(heap, 0, "a, when it was rewritten", 2, 2, 11);
        form(heap, 1, "b", 0, 0, 0);
        heap.erase();
        form(heap, 0, "a, when the text is gone", 2, 2, 11);
    }

    private static void wrongCalls() {
        TurnerHeap heap = Check.read(100, "def a=1;def b=2;3");
        int[][] calls = {{-2, 0}, {2, 0}, {8, 0}, {Integer.MIN_VALUE, 0}, {Integer.MAX_VALUE, 0}, {0, -1}, {0, 3},
            {-1, 3}, {-1, -1}, {1, Integer.MAX_VALUE}, {1, Integer.MIN_VALUE}};
        for (int[] call : calls) {
            Check.throwsDue("form " + call[0] + " " + call[1], IndexOutOfBoundsException.class,
                () -> heap.form(call[0], call[1]));
        }
    }
}
