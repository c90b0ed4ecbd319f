/** Promises 7 to 10: length, letter, reached and count. */
public final class AnswersTest {
    public static void main(String[] args) {
        letters();
        manyLetters();
        stepByStep();
        leftSideAndRest();
        reachedDefinitions();
        reachedAtAStop();
        counts();
        Check.end("AnswersTest");
    }

    private static void letters() {
        TurnerHeap heap = Check.read(100, "[12,1<2]");
        Check.due("nothing yet", heap.length(), 0);
        Check.throwsDue("letter 0", IndexOutOfBoundsException.class, () -> heap.letter(0));
        heap.run(1);
        Check.due("12 and a space", heap.length(), 3);
        Check.due("1", heap.letter(0), 49);
        Check.due("2", heap.letter(1), 50);
        Check.due("a space", heap.letter(2), 32);
        for (int i : new int[] {Integer.MIN_VALUE, -1, 3, 200, Integer.MAX_VALUE}) {
            Check.throwsDue("letter " + i, IndexOutOfBoundsException.class, () -> heap.letter(i));
        }
        heap.run(500);
        Check.due("t and a space", heap.length(), 5);
        Check.due("t", heap.letter(3), 116);
    }

    private static void manyLetters() {
        TurnerHeap heap = Check.read(100, "def c n=n:c (n+1);c 0");
        for (int i = 0; i < 6; i++) {
            heap.run(500);
        }
        Check.due("more than 200", heap.length() > 200, true);
        StringBuilder due = new StringBuilder();
        for (int i = 0; due.length() < 200; i++) {
            due.append(i).append(' ');
        }
        Check.due("the first 200", Check.printed(heap), due.substring(0, 200));
        Check.throwsDue("letter 200", IndexOutOfBoundsException.class, () -> heap.letter(200));
    }

    private static void state(TurnerHeap heap, String when, int reached, int most, int now) {
        Check.due(when + ": reached", heap.reached(), reached);
        Check.due(when + ": most on spines", heap.count(3), most);
        Check.due(when + ": on spines now", heap.count(4), now);
    }

    private static void stepByStep() {
        TurnerHeap heap = Check.read(100, "(\\x.x x) (\\y.y)");
        state(heap, "S I I I", 3, 0, 0);
        heap.run(1);
        state(heap, "I I (I I)", 3, 3, 1);
        heap.run(1);
        state(heap, "the inner cell has left", 3, 3, 1);
        heap.run(1);
        state(heap, "I I", 1, 3, 0);
        heap.run(1);
        state(heap, "I", 0, 3, 0);
        Check.due("a function", heap.run(1) + heap.stopped(), 2);
        state(heap, "stopped", 0, 3, 0);
    }

    private static void leftSideAndRest() {
        TurnerHeap heap = Check.read(100, "[1+2,3]");
        state(heap, "read", 6, 0, 0);
        heap.run(1);
        state(heap, "the pair's cells are gone, the left side and the rest stay", 3, 2, 1);
        heap.run(1);
        state(heap, "the left side has come", 2, 2, 0);
        heap.run(1);
        state(heap, "it came out", 2, 2, 0);
        heap.run(1);
        state(heap, "the second one", 0, 2, 0);
        heap.run(1);
        state(heap, "ended", 0, 2, 0);
    }

    private static void reachedDefinitions() {
        TurnerHeap heap = Check.read(100, "def a=1+2;def b=4 5 6;a");
        Check.due("read", heap.reached(), 4);
        heap.run(1);
        Check.due("a reference", heap.reached(), 4);
        heap.run(1);
        Check.due("a is I 3", heap.reached(), 3);
        heap.run(500);
        Check.due("ended", Check.printed(heap) + heap.reached(), "33");
        Check.due("no definition", Check.ran(100, "1+2", 500).reached(), 0);
        Check.due("fac", Check.ran(400, "def fac n=if n<1 then 1 else n*fac (n-1);fac 5", 500).reached(), 13);
        Check.due("ones", Check.ran(100, "def ones=1:ones;hd (tl (tl ones))", 500).reached(), 2);
    }

    private static void reachedAtAStop() {
        TurnerHeap heap = Check.ran(100, "1 2", 9);
        state(heap, "a number with an argument", 1, 1, 1);
        heap = Check.ran(100, "1+[2]", 9);
        state(heap, "the pair's spine is gone, ADD's stays", 4, 4, 2);
        heap = Check.ran(100, "hd 3", 9);
        state(heap, "hd of a number", 1, 1, 1);
        heap = Check.ran(100, "\\x.1", 9);
        state(heap, "a function has come, and is looked at", 1, 1, 0);
        heap = Check.ran(100, "[[1],2]", 9);
        state(heap, "a pair at the left, and the rest", 4, 2, 0);
    }

    private static void counts() {
        TurnerHeap heap = Check.read(100, "def a=1;def b x=x;b a+b a");
        int[] due = {2, 16, 0, 0, 0};
        for (int what = 0; what <= 4; what++) {
            Check.due("count " + what, heap.count(what), due[what]);
        }
        heap.run(1);
        Check.due("steps", heap.count(2), 1);
        Check.due("most", heap.count(3), 3);
        Check.due("now", heap.count(4), 3);
        heap.run(500);
        Check.due("ended", Check.printed(heap) + "|" + heap.count(2) + "|" + heap.count(4), "2|9|0");
        for (int what : new int[] {Integer.MIN_VALUE, -1, 5, Integer.MAX_VALUE}) {
            Check.throwsDue("count " + what, IndexOutOfBoundsException.class, () -> heap.count(what));
            Check.throwsDue("new: count " + what, IndexOutOfBoundsException.class, () -> new TurnerHeap(50).count(what));
        }
    }
}
