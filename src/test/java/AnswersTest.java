/** Promises 9 and 10: reached and count. */
public final class AnswersTest {
    public static void main(String[] args) {
        reachedNothing();
        stepByStep();
        leftSideAndRest();
        restIsLookedAt();
        reachedDefinitions();
        reachedAtAStop();
        countedProgram();
        countsOfNothing();
        wrongCounts();
        greatestNumberOnSpines();
        Check.end("AnswersTest");
    }

    private static void state(TurnerHeap heap, String when, int reached, int most, int now) {
        Check.due(when + ": reached", heap.reached(), reached);
        Check.due(when + ": most on spines", heap.count(3), most);
        Check.due(when + ": on spines now", heap.count(4), now);
    }

    private static void reachedNothing() {
        Check.sentence("IllegalStateException, when nothing is read");
        Check.throwsDue("new", IllegalStateException.class, () -> new TurnerHeap(50).reached());
        Check.throwsDue("written", IllegalStateException.class, () -> Check.written(50, "1").reached());
        Check.due("read", Check.read(50, "1").reached(), 0);
        Check.due("ended", Check.ran(50, "1", 1).reached(), 0);
        Check.due("read", Check.read(50, "1 2").reached(), 1);
        Check.due("a full heap", Check.read(40, "1" + Check.times(" 1", 40)).reached(), 40);
    }

    private static void stepByStep() {
        Check.sentence("How many cells are reached now; cells on the spines");
        TurnerHeap heap = Check.read(100, "(\\x.x x) (\\y.y)");
        state(heap, "S I I I", 3, 0, 0);
        heap.run(1);
        state(heap, "I I (I I)", 3, 3, 1);
        heap.run(1);
        state(heap, "the inner cell has left", 3, 3, 1);
        heap.run(1);
        state(heap, "I I", 1, 3, 0);
        heap.run(1);
        state(heap, "I", 0, 3, 0);
        Check.due("a function", heap.run(1) + heap.stopped(), 2);
        state(heap, "stopped", 0, 3, 0);
    }

    private static void leftSideAndRest() {
        Check.sentence("and the rest that is to be printed");
        TurnerHeap heap = Check.read(100, "[1+2,3]");
        state(heap, "read", 6, 0, 0);
        heap.run(1);
        state(heap, "the pair's cells are gone, the left side and the rest stay", 3, 2, 1);
        heap.run(1);
        state(heap, "the left side has come", 2, 2, 0);
        heap.run(1);
        state(heap, "it came out", 2, 2, 0);
        heap.run(1);
        state(heap, "the second one", 0, 2, 0);
        heap.run(1);
        state(heap, "ended", 0, 2, 0);
    }

    /** Like the main term, the rest is no more held when its cell has left the spine. */
    private static void restIsLookedAt() {
        Check.sentence("its right side is the rest, evaluated like the main term");
        TurnerHeap heap = Check.read(100, "1:(\\x.x) [2]");
        Check.due("read", heap.reached(), 5);
        heap.run(1);
        state(heap, "the rest: I [2]", 3, 2, 0);
        heap.run(1);
        state(heap, "the rest: [2]", 2, 2, 0);
        heap = Check.ran(100, "(\\x.x) [2]", 1);
        state(heap, "the main term: [2]", 2, 1, 0);
    }

    private static void reachedDefinitions() {
        Check.sentence("A cell is REACHED, if it is (part of) a definition's term");
        TurnerHeap heap = Check.read(100, "def a=1+2;def b=4 5 6;a");
        Check.due("read", heap.reached(), 4);
        heap.run(1);
        Check.due("a reference", heap.reached(), 4);
        heap.run(1);
        Check.due("a is I 3", heap.reached(), 3);
        heap.run(500);
        Check.due("ended", Check.printed(heap) + heap.reached(), "33");
        Check.due("no definition", Check.ran(100, "1+2", 500).reached(), 0);
        Check.due("fac", Check.ran(400, "def fac n=if n<1 then 1 else n*fac (n-1);fac 5", 500).reached(), 13);
        Check.due("ones", Check.ran(100, "def ones=1:ones;hd (tl (tl ones))", 500).reached(), 2);
        Check.due("eight", Check.read(100, "def a=1 1;def b=1 1;def c=1 1;def d=1 1;def e=1 1;def f=1 1;def g=1 1;"
            + "def h=1 1;1").reached(), 8);
    }

    private static void reachedAtAStop() {
        Check.sentence("when it has come to a VALUE, its spine is gone");
        state(Check.ran(100, "1 2", 9), "no value: a number with an argument", 1, 1, 1);
        state(Check.ran(100, "1+[2]", 9), "the pair's spine is gone, ADD's stays", 4, 4, 2);
        state(Check.ran(100, "hd 3", 9), "hd of a number", 1, 1, 1);
        state(Check.ran(100, "\\x.1", 9), "a function has come, and is looked at", 1, 1, 0);
        state(Check.ran(100, "[[1],2]", 9), "a pair at the left, and the rest", 4, 2, 0);
    }

    private static void countedProgram() {
        Check.sentence("Of the program that was read: definitions (0), lexemes (1); steps (2), ..");
        TurnerHeap heap = Check.read(100, "def a=1;def b x=x;b a+b a");
        int[] due = {2, 16, 0, 0, 0};
        for (int what = 0; what <= 4; what++) {
            Check.due("count " + what, heap.count(what), due[what]);
        }
        heap.run(1);
        Check.due("steps", heap.count(2), 1);
        Check.due("most", heap.count(3), 3);
        Check.due("now", heap.count(4), 3);
        heap.run(500);
        Check.due("ended", Check.printed(heap) + "|" + heap.count(2) + "|" + heap.count(4), "2|9|0");
        Check.rewrite(heap, "1 2");
        Check.due("another text is written: definitions", heap.count(0), 2);
        Check.due("another text is written: lexemes", heap.count(1), 16);
        heap.read();
        Check.due("it is read: definitions", heap.count(0), 0);
        Check.due("it is read: lexemes", heap.count(1), 2);
        Check.due("it is read: steps and spines", heap.count(2) + heap.count(3) + heap.count(4), 0);
    }

    private static void countsOfNothing() {
        Check.sentence("0 for all when nothing is read");
        for (int what = 0; what <= 4; what++) {
            Check.due("new: count " + what, new TurnerHeap(50).count(what), 0);
            Check.due("written: count " + what, Check.written(50, "def a=1;a+a").count(what), 0);
            TurnerHeap heap = Check.ran(50, "def a=1;a+a+a", 3);
            Check.due("read: count " + what, heap.count(what) > 0, true);
            Check.rewrite(heap, "def a=1;)");
            Check.throwsDue("read", IllegalArgumentException.class, heap::read);
            Check.due("refused: count " + what, heap.count(what), 0);
        }
    }

    private static void wrongCounts() {
        Check.sentence("IndexOutOfBoundsException, for another what");
        TurnerHeap heap = Check.read(50, "1");
        for (int what : new int[] {Integer.MIN_VALUE, -2, -1, 5, 6, Integer.MAX_VALUE}) {
            Check.throwsDue("count " + what, IndexOutOfBoundsException.class, () -> heap.count(what));
            Check.throwsDue("new: count " + what, IndexOutOfBoundsException.class, () -> new TurnerHeap(50).count(what));
        }
    }

    private static void greatestNumberOnSpines() {
        Check.sentence("the greatest number of cells on all spines (3), cells on them now (4)");
        TurnerHeap heap = Check.read(100, "1+2+3:[1+(2+(3+4))]");
        int[] most = {4, 4, 4, 4, 4, 6, 6};
        int[] now = {3, 2, 1, 0, 0, 5, 4};
        for (int i = 0; i < most.length; i++) {
            heap.run(1);
            Check.due("most after " + (i + 1), heap.count(3), most[i]);
            Check.due("now after " + (i + 1), heap.count(4), now[i]);
        }
    }
}
