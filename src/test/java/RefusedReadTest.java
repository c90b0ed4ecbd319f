/** Promise 4: terms that are too big, and what is left when read throws. */
public final class RefusedReadTest {
    /** Of 400 applications, when the last name was taken out. */
    private static final String CELLS_400 =
        "def f a b c d e g=\\h.\\i.\\j.\\k.\\l.(c c g)(i b g)k(a k h)e(i e)(j a d c)(b b b)"
        + "i i b b(l g)(d l)(k j)(l e);";
    /** Of 401 applications, when b was taken out, and of 400 without a. */
    private static final String ONCE_401 =
        "def f a b c d e g=\\h.\\i.\\j.\\k.\\l.(i e g)(b h)k d k(d d c d)(h h)i(h j)(e e g b)(k c)"
        + "(b j j)c(l j k)i d h a;";
    /** Of 400 applications, when b was taken out, and of 399 without a. */
    private static final String ONCE_400 =
        "def f a b c d e g=\\h.\\i.\\j.\\k.\\l.g(l k e)(l d g)(d h c l)i(b d h g)(k e l)h(c j j)g(h g k c)"
        + "e l(l b c i)i c a;";
    /** The same of names of "\". */
    private static final String FUNCTION_ONCE_401 =
        "\\a.\\b.\\c.\\d.\\e.\\g.g b d(b c)e g e g(d c e d)d(e c c)d e c d(b e)b e(d g)d e b d b e e b d b c c"
        + "(e b c d)c d(c d g)b c d(c g g)c(b c e g)a";
    private static final String FUNCTION_ONCE_400 =
        "\\a.\\b.\\c.\\d.\\e.\\g.c(d b b)e d b d e(g c)c g e e d e(g c g)d g(g d d)b b(e b b)(g e d e)d e"
        + "(g d d)b c g(e d)c e(g c e e)g c e d c d(d b)a";
    /** Of 401 applications before a is taken out, and of 400 without it. */
    private static final String BEFORE_401 =
        "def f a=(\\b.\\c.\\d.\\e.\\g.\\h.e d g g d h g h d b c+e d h e e e e b d c b h e e g d d h h b h h b h e g h b g*"
        + "h c b*h c b c d c:b) a;";
    private static final String FAR_TOO_BIG =
        "def f a b c d e g=\\h.\\i.\\j.\\k.\\l.(b k d d)(k c i k a)i k(d e c j l)j(j k)(i g)l"
        + "(l d h l)(e b b)(i h g i)(a a g b a)(g e d);";

    public static void main(String[] args) {
        termOfParameters();
        termOfFunction();
        onlyWhenTakenOut();
        allTerms();
        wrongComesFirst();
        nothingIsReadAnyMore();
        refusedManyTimes();
        readAgain();
        Check.end("RefusedReadTest");
    }

    private static void cells(String text, int cells) {
        Check.due("cells of " + text, Check.written(400, text).read(), cells);
    }

    private static void termOfParameters() {
        Check.sentence("UnsupportedOperationException, when a term has more than 400 applications when a name was taken out of it");
        cells(CELLS_400 + "1", 400);
        cells(ONCE_400 + "f 1", 400);
        Check.tooBig(400, ONCE_401 + "1");
        Check.tooBig(400, FAR_TOO_BIG + "1");
    }

    private static void termOfFunction() {
        Check.sentence("(the same, when a name of a \"\\\" was taken out)");
        cells(FUNCTION_ONCE_400, 399);
        Check.tooBig(400, FUNCTION_ONCE_401);
    }

    private static void onlyWhenTakenOut() {
        Check.sentence("(asked when the name was taken out, not before)");
        cells(BEFORE_401 + "f", 400);
    }

    private static void allTerms() {
        Check.sentence("or all terms have more cells than there is room");
        for (int room : new int[] {40, 41, 60, 80}) {
            String ones = "1" + Check.times(" 1", room - 20);
            String twenty = "def f=1" + Check.times(" 1", 10) + ";def g=1" + Check.times(" 1", 10) + ";";
            Check.due("in room " + room, Check.written(room, twenty + ones).read(), room);
            Check.tooBig(room, twenty + ones + " 1");
            Check.tooBig(room, "def h=1 1;" + twenty + ones);
            Check.due("one less", Check.written(room, twenty + ones.substring(2)).read(), room - 1);
        }
        cells(CELLS_400 + "f", 400);
        Check.tooBig(400, CELLS_400 + "f 1");
        Check.tooBig(400, "def a=1 2;" + CELLS_400 + "f");
        Check.tooBig(399, CELLS_400 + "f");
    }

    private static void wrongComesFirst() {
        Check.sentence("(a text that is wrong is told as such, even if its terms are too big)");
        Check.wrong(FAR_TOO_BIG + "x");
        Check.tooMuch(FAR_TOO_BIG + "((((((((1");
        Check.throwsDue("wrong, in a small room", IllegalArgumentException.class,
            () -> Check.written(40, "1" + Check.times(" 1", 60) + ")").read());
    }

    private static void nothingIsReadAnyMore() {
        Check.sentence("When it throws, nothing is read any more");
        refused("", IllegalArgumentException.class);
        refused("def a=1;((", IllegalArgumentException.class);
        refused("A", IllegalArgumentException.class);
        refused("x", IllegalArgumentException.class);
        refused(Check.times("1 ", 101), IllegalStateException.class);
        refused(Check.times("(", 9), IllegalStateException.class);
        refused(Check.times("def a=1;", 9), IllegalStateException.class);
        refused(FAR_TOO_BIG + "1", UnsupportedOperationException.class);
        refused("1" + Check.times(" 1", 51), UnsupportedOperationException.class);
    }

    /** Read while another program goes, when it has stopped, and twice. */
    private static void refused(String text, Class<? extends Exception> due) {
        for (int steps : new int[] {0, 1, 2, 500}) {
            TurnerHeap heap = Check.read(50, "def k=3;1:k:[]");
            if (steps > 0) {
                heap.run(steps);
            }
            Check.rewrite(heap, text);
            for (int i = 0; i < 2; i++) {
                Check.throwsDue("read " + text, due, heap::read);
                nothingIsRead(heap);
            }
            Check.due("the text stays", heap.erase(), text.length());
            Check.write(heap, "2:[]");
            Check.due("it is read", heap.read(), 2);
            Check.due("and begins", heap.stopped() + heap.length() + heap.count(2), 0);
            Check.due("steps", heap.run(500), 2);
            Check.due("printed", Check.printed(heap), "2 ");
        }
    }

    /** Nothing piles up in an object that is refused again and again. */
    private static void refusedManyTimes() {
        String[] texts = {"[1" + Check.times(",1", 30) + ",(", "1" + Check.times(":1", 40) + ":", "def f a b c=\\d.\\e.(",
            Check.times("(", 9), Check.times("1 ", 101), Check.times("def a=1;", 9), FAR_TOO_BIG + "1"};
        for (String text : texts) {
            TurnerHeap heap = Check.written(400, text);
            for (int i = 0; i < 200; i++) {
                Check.due("refused", isRefused(heap), true);
            }
            Check.rewrite(heap, "def f a b=\\c.[a,b,c]; 1 : 2 : f 3 4 5");
            Check.due("it is read", heap.read() > 0, true);
            heap.run(500);
            Check.due("printed", Check.printed(heap), "1 2 3 4 5 ");
        }
    }

    private static boolean isRefused(TurnerHeap heap) {
        try {
            heap.read();
            return false;
        } catch (IllegalArgumentException | IllegalStateException | UnsupportedOperationException e) {
            return true;
        }
    }

    private static void nothingIsRead(TurnerHeap heap) {
        Check.due("stopped", heap.stopped(), -1);
        Check.due("length", heap.length(), 0);
        for (int what = 0; what <= 4; what++) {
            Check.due("count " + what, heap.count(what), 0);
        }
        Check.throwsDue("letter", IndexOutOfBoundsException.class, () -> heap.letter(0));
        Check.throwsDue("form", IndexOutOfBoundsException.class, () -> heap.form(-1, 0));
        Check.throwsDue("form", IndexOutOfBoundsException.class, () -> heap.form(0, 0));
        Check.throwsDue("run", IllegalStateException.class, () -> heap.run(1));
        Check.throwsDue("reached", IllegalStateException.class, heap::reached);
    }

    /** Whatever came before, a program is read and runs as by a new object. */
    private static void readAgain() {
        Check.sentence("Reads the text, and begins (again, by an object that was used)");
        String[] texts = {"def a=1;def b=2;def c=3;def d=4;def e=5;def f=6;def g=7;def h=8;[a,b,c,d,e,f,g,h]",
            "1" + Check.times("+1", 41), "1:2", "[[1]]", "[1+2,3+hd 4]", "\\x.1", "1 2", "[(1,2)", "[1,2,(", "def a x y=(",
            "def f x=f x x;f 1", "def f x=f x+1;f 1", FAR_TOO_BIG + "1", "\\x.\\y.(", "hd [5,6]", "A", "3",
            "def s k=if k==0 then 0 else k+s (k-1);[s 3,s 4]"};
        for (String first : texts) {
            for (String second : texts) {
                for (int steps : new int[] {0, 1, 40, 500}) {
                    TurnerHeap used = new TurnerHeap(60);
                    told(used, first, steps);
                    Check.due(second + " behind " + first, told(used, second, 500), told(new TurnerHeap(60), second, 500));
                }
            }
        }
    }

    private static String told(TurnerHeap heap, String text, int steps) {
        Check.rewrite(heap, text);
        StringBuilder told = new StringBuilder();
        try {
            told.append(heap.read()).append(" cells, ").append(heap.reached()).append(" reached, ");
            told.append(heap.count(3)).append(' ').append(heap.count(4)).append(' ');
            told.append(heap.form(-1, 0)).append(' ');
            if (steps > 0) {
                told.append(heap.run(steps)).append(" steps, ").append(heap.reached()).append(" reached, ");
            }
        } catch (IllegalArgumentException | IllegalStateException | UnsupportedOperationException e) {
            told.append(e.getClass());
        }
        told.append(heap.stopped()).append(' ').append(Check.printed(heap));
        for (int what = 0; what <= 4; what++) {
            told.append(' ').append(heap.count(what));
        }
        return told.toString();
    }
}
