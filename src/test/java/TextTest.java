/** Promises 1 to 3: a new object, write and erase. */
public final class TextTest {
    private static final String BIG =
        "def f a b c d e g=\\h.\\i.\\j.\\k.\\l.(h i h h j)k(k e i)j(j b e l)(g b e)"
        + "(e c h)(j h e)(c d)(k e)(i l i)e(c h)(c j)b l k;";

    public static void main(String[] args) {
        newObject();
        room();
        write();
        writeWrong();
        writeFull();
        erase();
        Check.end("TextTest");
    }

    private static void newObject() {
        TurnerHeap heap = new TurnerHeap(100);
        Check.due("new: stopped", heap.stopped(), -1);
        Check.due("new: length", heap.length(), 0);
        Check.due("new: erase", heap.erase(), 0);
        for (int what = 0; what <= 4; what++) {
            Check.due("new: count " + what, heap.count(what), 0);
        }
        Check.throwsDue("new: run", IllegalStateException.class, () -> heap.run(1));
        Check.throwsDue("new: reached", IllegalStateException.class, heap::reached);
        Check.throwsDue("new: letter", IndexOutOfBoundsException.class, () -> heap.letter(0));
        Check.throwsDue("new: form", IndexOutOfBoundsException.class, () -> heap.form(-1, 0));
        Check.throwsDue("new: read", IllegalArgumentException.class, heap::read);
    }

    private static void room() {
        String forty = "1" + Check.times(" 1", 40);
        for (int room : new int[] {Integer.MIN_VALUE, -1, 0, 39, 40}) {
            Check.due("room " + room, Check.written(room, forty).read(), 40);
            Check.tooBig(room, forty + " 1");
        }
        Check.due("room 41", Check.written(41, forty + " 1").read(), 41);
        Check.tooBig(41, forty + " 1 1");
        for (int room : new int[] {400, 401, Integer.MAX_VALUE}) {
            Check.due("room " + room, Check.written(room, BIG + "f 1 1").read(), 400);
            Check.tooBig(room, BIG + "f 1 1 1");
        }
        Check.tooBig(399, BIG + "f 1 1");
    }

    private static void write() {
        TurnerHeap heap = new TurnerHeap(100);
        Check.due("the lowest first", heap.write(Check.packed("12 : 34 "), 5), 5);
        Check.due("behind the text", heap.write(Check.packed("[] zzzzz"), 2), 7);
        Check.due("cells", heap.read(), 2);
        heap.run(500);
        Check.due("what came out", Check.printed(heap), "12 ");
        Check.due("the edges 32, 126 and 10", heap.write(Check.packed(" ~\n"), 3), 10);
        Check.due("bytes above n are not looked at", heap.write(-256L | 'x', 1), 11);
    }

    private static void writeWrong() {
        TurnerHeap heap = Check.written(100, "1");
        for (int n : new int[] {Integer.MIN_VALUE, -1, 0, 9, Integer.MAX_VALUE}) {
            Check.throwsDue("n " + n, IllegalArgumentException.class, () -> heap.write(Check.packed("11111111"), n));
        }
        for (int c : new int[] {0, 9, 11, 13, 31, 127, 128, 255}) {
            Check.throwsDue("character " + c, IllegalArgumentException.class, () -> heap.write(c, 1));
            Check.throwsDue("character 8 " + c, IllegalArgumentException.class,
                () -> heap.write((long) c << 56 | Check.packed("1111111"), 8));
        }
        Check.due("nothing was written", heap.erase(), 1);
    }

    private static void writeFull() {
        TurnerHeap heap = Check.written(100, Check.times(" ", 233));
        Check.throwsDue("241", IllegalStateException.class, () -> heap.write(Check.packed("11111111"), 8));
        Check.throwsDue("241, no character", IllegalArgumentException.class, () -> heap.write(0, 8));
        Check.due("240", heap.write(Check.packed("      1"), 7), 240);
        Check.throwsDue("241", IllegalStateException.class, () -> heap.write('1', 1));
        Check.due("it is read", heap.read(), 0);
        Check.due("one lexeme", heap.count(1), 1);
    }

    private static void erase() {
        TurnerHeap heap = Check.read(100, "7:[]");
        Check.due("erase", heap.erase(), 4);
        Check.due("erase again", heap.erase(), 0);
        Check.due("what was read stays", heap.run(1), 1);
        Check.due("and goes on", Check.printed(heap), "7 ");
        Check.throwsDue("nothing to read", IllegalArgumentException.class, heap::read);
        Check.due("nothing is read any more", heap.stopped(), -1);
    }
}
