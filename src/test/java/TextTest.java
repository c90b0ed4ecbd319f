/** Promises 1 to 3: a new object, write and erase. */
public final class TextTest {
    public static void main(String[] args) {
        smallRooms();
        bigRooms();
        nothingIsWrittenOrRead();
        howManyBytes();
        theLowestFirst();
        noCharacter();
        fullText();
        refusedWritesWriteNothing();
        erasedTexts();
        whatWasReadStays();
        manyCalls();
        Check.end("TextTest");
    }

    private static String ones(int cells) {
        return "1" + Check.times(" 1", cells);
    }

    private static void smallRooms() {
        Check.sentence("below 40 it is 40");
        for (int room : new int[] {Integer.MIN_VALUE, -400, -41, -40, -1, 0, 1, 39, 40}) {
            Check.due("40 cells in room " + room, Check.written(room, ones(40)).read(), 40);
            Check.tooBig(room, ones(41));
        }
        Check.due("41 cells in room 41", Check.written(41, ones(41)).read(), 41);
        Check.tooBig(41, ones(42));
    }

    private static void bigRooms() {
        Check.sentence("above 400 it is 400");
        for (int room : new int[] {400, 401, 440, 1000, Integer.MAX_VALUE}) {
            Check.due("400 cells in room " + room, Check.written(room, Check.CELLS_398 + "f 1 1").read(), 400);
            Check.tooBig(room, Check.CELLS_398 + "f 1 1 1");
        }
        Check.due("399 cells in room 399", Check.written(399, Check.CELLS_398 + "f 1").read(), 399);
        Check.tooBig(399, Check.CELLS_398 + "f 1 1");
    }

    private static void nothingIsWrittenOrRead() {
        Check.sentence("Nothing is written or read.");
        for (int room : new int[] {Integer.MIN_VALUE, 0, 40, 400, Integer.MAX_VALUE}) {
            Check.due("written", new TurnerHeap(room).erase(), 0);
            Check.due("first write", new TurnerHeap(room).write('1', 1), 1);
            Check.due("stopped", new TurnerHeap(room).stopped(), -1);
            Check.due("length", new TurnerHeap(room).length(), 0);
            Check.throwsDue("read", IllegalArgumentException.class, () -> new TurnerHeap(room).read());
            Check.throwsDue("run", IllegalStateException.class, () -> new TurnerHeap(room).run(1));
            Check.throwsDue("reached", IllegalStateException.class, () -> new TurnerHeap(room).reached());
            Check.throwsDue("letter", IndexOutOfBoundsException.class, () -> new TurnerHeap(room).letter(0));
            Check.throwsDue("form", IndexOutOfBoundsException.class, () -> new TurnerHeap(room).form(-1, 0));
            Check.throwsDue("form", IndexOutOfBoundsException.class, () -> new TurnerHeap(room).form(0, 0));
            for (int what = 0; what <= 4; what++) {
                Check.due("count " + what, new TurnerHeap(room).count(what), 0);
            }
        }
    }

    private static void howManyBytes() {
        Check.sentence("IllegalArgumentException, when n is not 1 .. 8");
        long eight = Check.packed("11111111");
        for (int n = 1; n <= 8; n++) {
            Check.due("n " + n, new TurnerHeap(40).write(eight, n), n);
        }
        TurnerHeap heap = new TurnerHeap(40);
        for (int n : new int[] {Integer.MIN_VALUE, -8, -1, 0, 9, 10, 16, 65, 257, Integer.MAX_VALUE}) {
            Check.throwsDue("n " + n, IllegalArgumentException.class, () -> heap.write(eight, n));
        }
        Check.due("nothing came", heap.erase(), 0);
    }

    private static void theLowestFirst() {
        Check.sentence("The n lowest bytes of eight come as characters behind the text, the lowest first");
        TurnerHeap heap = new TurnerHeap(40);
        Check.due("12", heap.write(0x3231, 2), 2);
        Check.due("3, what is above n does not count", heap.write(0xFF00_0000_0000_0033L, 1), 3);
        Check.due("456, what is above n does not count", heap.write(0x8007_7F1F_0036_3534L, 3), 6);
        heap.read();
        heap.run(1);
        Check.due("printed", Check.printed(heap), "123456");
        TurnerHeap full = new TurnerHeap(40);
        Check.due("all eight", full.write(Check.packed("1:2:3:[]"), 8), 8);
        full.read();
        full.run(500);
        Check.due("printed", Check.printed(full), "1 2 3 ");
    }

    private static void noCharacter() {
        Check.sentence("or one of them is no character (32 .. 126, and 10)");
        for (int c = 0; c <= 255; c++) {
            boolean isCharacter = c == 10 || c >= 32 && c <= 126;
            for (int place = 0; place < 8; place++) {
                long ones = Check.packed("11111111") & ~(255L << 8 * place);
                long eight = ones | (long) c << 8 * place;
                TurnerHeap heap = new TurnerHeap(40);
                if (isCharacter) {
                    Check.due("character " + c + " at " + place, heap.write(eight, 8), 8);
                } else {
                    Check.throwsDue("character " + c + " at " + place, IllegalArgumentException.class,
                        () -> heap.write(eight, 8));
                }
            }
        }
    }

    private static void fullText() {
        Check.sentence("IllegalStateException, when there would be more than 240");
        for (int n = 1; n <= 8; n++) {
            int bytes = n;
            long eight = Check.packed("        ");
            TurnerHeap fits = Check.written(40, Check.times(" ", 240 - n));
            Check.due("240 by " + n, fits.write(eight, n), 240);
            TurnerHeap full = Check.written(40, Check.times(" ", 241 - n));
            Check.throwsDue("241 by " + n, IllegalStateException.class, () -> full.write(eight, bytes));
            Check.due("what was there stays", full.erase(), 241 - n);
        }
        TurnerHeap full = Check.written(40, Check.times(" ", 240));
        Check.throwsDue("241, n is wrong", IllegalArgumentException.class, () -> full.write(' ', 0));
        Check.throwsDue("241, no character", IllegalArgumentException.class, () -> full.write(9, 1));
        Check.throwsDue("241", IllegalStateException.class, () -> full.write(' ', 1));
    }

    private static void refusedWritesWriteNothing() {
        Check.sentence("(a refused write leaves the text)");
        TurnerHeap heap = Check.written(40, "7");
        Check.throwsDue("the last one is wrong", IllegalArgumentException.class,
            () -> heap.write(Check.packed("1234567\t"), 8));
        Check.throwsDue("n is wrong", IllegalArgumentException.class, () -> heap.write(Check.packed("12345678"), 9));
        Check.due("behind it", heap.write('8', 1), 2);
        heap.read();
        heap.run(1);
        Check.due("printed", Check.printed(heap), "78");
        TurnerHeap full = Check.written(40, Check.times(" ", 238) + "1");
        Check.throwsDue("two more", IllegalStateException.class, () -> full.write(Check.packed("23"), 2));
        Check.due("one more", full.write('4', 1), 240);
        full.read();
        full.run(1);
        Check.due("printed", Check.printed(full), "14");
    }

    private static void erasedTexts() {
        Check.sentence("The text is gone: how many characters it had");
        TurnerHeap heap = new TurnerHeap(40);
        for (int length : new int[] {0, 1, 8, 239, 240, 0}) {
            Check.write(heap, Check.times("1", length));
            Check.due("had", heap.erase(), length);
            Check.due("is empty", heap.erase(), 0);
        }
        Check.due("the next one is the first", heap.write('5', 1), 1);
        Check.due("and is all", heap.read(), 0);
        Check.due("lexemes", heap.count(1), 1);
        heap.erase();
        Check.throwsDue("nothing to read", IllegalArgumentException.class, heap::read);
    }

    private static void whatWasReadStays() {
        Check.sentence("(what was read stays)");
        TurnerHeap heap = Check.ran(40, "def a=1+2;4:a:[]", 1);
        heap.erase();
        Check.write(heap, "(((");
        Check.due("stopped", heap.stopped(), 0);
        Check.due("length", heap.length(), 2);
        Check.due("letter", heap.letter(0), (int) '4');
        Check.due("reached", heap.reached(), 4);
        Check.due("definitions", heap.count(0), 1);
        Check.due("lexemes", heap.count(1), 13);
        Check.due("form", heap.form(0, 2), 11);
        heap.run(500);
        Check.due("goes on", Check.printed(heap) + heap.stopped(), "4 3 1");
    }

    /** Half of an object's calls run as long as a call can. */
    private static void manyCalls() {
        Check.sentence("An object is used for at most 512 calls after it has been made");
        TurnerHeap heap = Check.read(400, "def c n=n:c (n+1);c 0");
        int calls = 4;
        int steps = 0;
        for (; calls < 510; calls += 2) {
            steps += heap.run(500);
            Check.due("cells do not pile up", heap.reached() < 20, true);
        }
        Check.due("steps", heap.count(2), steps);
        Check.due("steps", steps, 253 * 500);
        Check.due("it prints a number in eight steps", Math.abs(charactersUpTo(steps / 8) - heap.length()) <= 6, true);
    }

    private static int charactersUpTo(int numbers) {
        int characters = 0;
        for (int i = 0; i < numbers; i++) {
            characters += Integer.toString(i).length() + 1;
        }
        return characters;
    }
}
