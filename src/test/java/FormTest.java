/** Promise 11, and the rules by which names are taken out. */
public final class FormTest {
    private static final String K = "(\\a.\\b.a)";
    private static final String B = "(\\f.\\g.\\y.f (g y))";

    public static void main(String[] args) {
        heads();
        rules();
        firstOfTheRules();
        toldByForm();
        notLookedInto();
        parameters();
        asItWasRead();
        definitionsThere();
        whatThereIs();
        Check.end("FormTest");
    }

    private static void form(TurnerHeap heap, int definition, String what, int applications, int toLeft, int head) {
        Check.due(what + ": applications", heap.form(definition, 0), applications);
        Check.due(what + ": to the left", heap.form(definition, 1), toLeft);
        Check.due(what + ": head", heap.form(definition, 2), head);
    }

    private static void form(String text, int applications, int toLeft, int head) {
        form(Check.read(400, text), -1, text, applications, toLeft, head);
        String definition = "def d=" + text + ";0";
        form(Check.read(400, definition), 0, definition, applications, toLeft, head);
    }

    private static void heads() {
        Check.sentence("its applications (0), the applications from itself to the left (1), what is at the left then (2)");
        form("5", 0, 0, 0);
        form("5 6 (7 8)", 3, 2, 0);
        form("if 1 then 2 else 3", 3, 3, 10);
        form("1+2", 2, 2, 11);
        form("1-2", 2, 2, 12);
        form("1*2", 2, 2, 13);
        form("1<2", 2, 2, 14);
        form("1==2", 2, 2, 15);
        form("1:2", 2, 2, 16);
        form("[1,2]", 4, 2, 16);
        form("[]", 0, 0, 17);
        form("hd 1", 1, 1, 18);
        form("tl", 0, 0, 19);
        form("nul 1 2", 2, 2, 20);
        TurnerHeap heap = Check.read(100, "def a=b 1;def b=a;b 1 2");
        form(heap, 0, "a", 1, 1, 1);
        form(heap, 1, "b", 0, 0, 1);
        form(heap, -1, "main", 2, 2, 1);
    }

    private static void rules() {
        Check.sentence("out of itself: I; out of a term that does not have it: (K of) the term; out of f x, ..");
        form("\\x.x", 0, 0, 2);
        form("\\x.1", 1, 1, 3);
        form("\\x.1 2", 2, 1, 3);
        form("\\x.1 x", 0, 0, 0);
        form("\\x.1 2 x", 1, 1, 0);
        form("\\x.hd 1 (2 x)", 3, 3, 8);
        form("\\x.hd (1 x)", 2, 2, 5);
        form("\\x.hd (1 x) 2", 3, 3, 9);
        form("\\x.x 1", 2, 2, 6);
        form("\\x.hd 1 (2 x) 3", 5, 2, 6);
        form("\\x.hd (1 x) x", 3, 3, 7);
        form("\\x.hd (1 x) (2 x)", 3, 3, 7);
        form("\\x.x x", 2, 2, 4);
        form("\\x.\\y.x", 0, 0, 3);
        form("\\x.\\y.y", 1, 1, 3);
        form("\\x.x:x", 2, 2, 4);
        form("\\x.[x]", 2, 2, 6);
        form("\\f.\\g.\\x.f x (g x)", 0, 0, 4);
        form("\\f.\\g.\\x.f (g x)", 0, 0, 5);
        form("\\f.\\x.\\y.f y x", 0, 0, 6);
    }

    /** Each rule beside the one that comes before it. */
    private static void firstOfTheRules() {
        Check.sentence("the first of these");
        form("\\x.(\\y.1) x ((\\z.2) x)", 2, 1, 3);
        form("\\x.(\\y.1) x x", 0, 0, 0);
        form("\\x.(\\y.1 2) x x", 1, 1, 0);
        form("\\x.(\\y.1 2) x (3 x)", 3, 3, 8);
        form("\\x.(\\y.1) x (3 x)", 2, 2, 5);
        form("\\x.1 (2 x) ((\\z.3) x)", 3, 3, 9);
        form("\\x.x 1 ((\\z.3) x)", 4, 2, 6);
        form("\\x.1 (2 x) (3 x)", 3, 3, 7);
        form("\\x.1 (2 x) x", 3, 3, 7);
        form("\\x.x 1 (3 x)", 4, 2, 4);
        form("\\x.x x", 2, 2, 4);
        form("\\x.x 1", 2, 2, 6);
    }

    private static void toldByForm() {
        Check.sentence("K f' and (B g) h are told by their form, wherever they come from");
        form("\\x." + K + " 1 x 2", 2, 1, 3);
        form("\\x." + K + " 1 x x", 0, 0, 0);
        form("\\x.x (" + K + " 1 x)", 2, 2, 6);
        form("\\x." + B + " 1 2 x 3", 3, 3, 9);
        form("\\x." + B + " 1 2 x x", 3, 3, 7);
        form("\\x." + B + " 1 2 3 x 4", 5, 2, 6);
        form("\\x.(\\y.1) x", 1, 1, 3);
        form("\\x.(\\y.1) x 2", 2, 1, 3);
        form("\\x.(\\y.hd) x x", 0, 0, 18);
        form("\\x.(\\y.hd) x (1 x)", 2, 2, 5);
        form("\\x.(\\y.hd 1) x (2 x)", 3, 3, 8);
        form("\\x.x ((\\y.1) x)", 2, 2, 6);
        form("\\x.(\\y.hd (1 y)) x 2", 3, 3, 9);
        form("\\x.(\\y.hd (1 y)) x x", 3, 3, 7);
        form("\\x.hd ((\\y.y) x)", 0, 0, 18);
        form("\\x.(\\y.1) x ((\\z.2) x)", 2, 1, 3);
    }

    private static void notLookedInto() {
        Check.sentence("A term that does not have the name is not looked into");
        form("\\x." + K + " 1 (2 x)", 3, 3, 8);
        form("\\x." + K + " (2 x)", 2, 2, 5);
        form("\\x.x (" + K + " 1)", 3, 2, 6);
        form("\\x." + K + " 1 x", 1, 1, 3);
        form("\\x." + B + " 1 2 (3 x)", 4, 3, 8);
        form("\\x." + K + " 1 2", 3, 1, 3);
        form("\\x." + K + " 1", 2, 1, 3);
        form("\\x." + K, 1, 1, 3);
    }

    private static void parameters() {
        Check.sentence("parameters out of a definition's, the last one first");
        form(Check.read(100, "def f a b=b a;1"), 0, "the last one first", 1, 1, 6);
        form(Check.read(100, "def f a b=a;1"), 0, "f a b = a", 0, 0, 3);
        form(Check.read(100, "def f a b=b;1"), 0, "f a b = b", 1, 1, 3);
        form(Check.read(100, "def f a=\\a.a;1"), 0, "f a = \\a.a", 1, 1, 3);
        form(Check.read(100, "def f a b=\\c.a b c;1"), 0, "f a b = \\c.a b c", 0, 0, 2);
        form(Check.read(100, "def f a b c d e g=1;1"), 0, "six that are not used", 6, 1, 3);
    }

    private static void asItWasRead() {
        Check.sentence("The form of a definition's term, or of the main one, as it was read");
        String text = "def a=1+2;def b=3;a+b";
        TurnerHeap heap = Check.ran(100, text, 500);
        Check.due(text, Check.printed(heap), "6");
        form(heap, -1, "main, when it has ended", 2, 2, 11);
        form(heap, 0, "a, when it was rewritten", 2, 2, 11);
        form(heap, 1, "b", 0, 0, 0);
        heap.erase();
        form(heap, 0, "a, when the text is gone", 2, 2, 11);
    }

    private static void formIsThere(TurnerHeap heap, int definition, boolean isThere) {
        for (int what = 0; what <= 2; what++) {
            int asked = what;
            if (isThere) {
                Check.due("form " + definition + " " + what, heap.form(definition, what), 0);
            } else {
                Check.throwsDue("form " + definition + " " + what, IndexOutOfBoundsException.class,
                    () -> heap.form(definition, asked));
            }
        }
    }

    private static void definitionsThere() {
        Check.sentence("IndexOutOfBoundsException, when there is none of these (definitions)");
        StringBuilder text = new StringBuilder();
        for (int n = 0; n <= 8; n++) {
            TurnerHeap heap = Check.read(100, text + "2");
            for (int definition : new int[] {-3, -2, -1, 0, 1, 2, 3, 4, 5, 6, 7, 8, 9}) {
                formIsThere(heap, definition, definition >= -1 && definition < n);
            }
            formIsThere(heap, Integer.MIN_VALUE, false);
            formIsThere(heap, Integer.MAX_VALUE, false);
            text.append("def a=1;");
        }
        formIsThere(new TurnerHeap(100), -1, false);
        formIsThere(new TurnerHeap(100), 0, false);
        formIsThere(Check.written(100, "1"), -1, false);
    }

    private static void whatThereIs() {
        Check.sentence("IndexOutOfBoundsException, when there is none of these (what)");
        TurnerHeap heap = Check.read(100, "def a=1;def b=2;3");
        for (int definition = -1; definition <= 1; definition++) {
            int asked = definition;
            for (int what : new int[] {Integer.MIN_VALUE, -2, -1, 3, 4, Integer.MAX_VALUE}) {
                Check.throwsDue("form " + definition + " " + what, IndexOutOfBoundsException.class,
                    () -> heap.form(asked, what));
            }
        }
    }
}
