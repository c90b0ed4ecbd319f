import java.util.concurrent.Callable;

/** What the tests share: a list of wrong answers, and short ways to use the class. */
final class Check {
    /** A definition f of 398 cells. */
    static final String CELLS_398 =
        "def f a b c d e g=\\h.\\i.\\j.\\k.\\l.(h i h h j)k(k e i)j(j b e l)(g b e)"
        + "(e c h)(j h e)(c d)(k e)(i l i)e(c h)(c j)b l k;";

    private static int wrong = 0;
    private static int asked = 0;
    private static String sentence = "";

    private Check() {
    }

    /** The document's words that are tested from here on: told with each wrong answer. */
    static void sentence(String words) {
        sentence = "\"" + words + "\": ";
    }

    static void due(String what, Object got, Object want) {
        asked++;
        if (!want.equals(got)) {
            wrong++;
            System.out.println(sentence + what + ": answered " + got + ", due is " + want);
        }
    }

    static void throwsDue(String what, Class<? extends Exception> want, Callable<Integer> call) {
        Object got;
        try {
            got = call.call();
        } catch (Exception e) {
            got = e.getClass();
        }
        due(what, got, want);
    }

    static void end(String test) {
        System.out.println(test + ": " + asked + " asked, " + wrong + " wrong");
        if (wrong != 0) {
            System.exit(1);
        }
    }

    static TurnerHeap written(int room, String text) {
        TurnerHeap heap = new TurnerHeap(room);
        write(heap, text);
        return heap;
    }

    static void write(TurnerHeap heap, String text) {
        for (int from = 0; from < text.length(); from += 8) {
            int n = Math.min(8, text.length() - from);
            heap.write(packed(text.substring(from, from + n)), n);
        }
    }

    static void rewrite(TurnerHeap heap, String text) {
        heap.erase();
        write(heap, text);
    }

    static long packed(String text) {
        long eight = 0;
        for (int i = text.length() - 1; i >= 0; i--) {
            eight = eight << 8 | text.charAt(i);
        }
        return eight;
    }

    static TurnerHeap read(int room, String text) {
        TurnerHeap heap = written(room, text);
        heap.read();
        return heap;
    }

    static TurnerHeap ran(int room, String text, int steps) {
        TurnerHeap heap = read(room, text);
        heap.run(steps);
        return heap;
    }

    /** All that came out, when there is not more than letter tells. */
    static String printed(TurnerHeap heap) {
        StringBuilder all = new StringBuilder();
        for (int i = 0; i < heap.length() && i < 200; i++) {
            all.append((char) heap.letter(i));
        }
        return all.toString();
    }

    /** What comes out, how it stopped, and after how many steps. */
    static String fate(int room, String text) {
        TurnerHeap heap = ranOut(room, text);
        return printed(heap) + "|" + heap.stopped() + "|" + heap.count(2);
    }

    static void wrong(String text) {
        throwsDue("read of " + text, IllegalArgumentException.class, () -> written(400, text).read());
    }

    static void tooMuch(String text) {
        throwsDue("read of " + text, IllegalStateException.class, () -> written(400, text).read());
    }

    static void tooBig(int room, String text) {
        throwsDue("read of " + text, UnsupportedOperationException.class, () -> written(room, text).read());
    }

    /** A definition z of so many cells, which are always reached. */
    static String filler(int cells) {
        return "def z=1" + times(" 1", cells) + ";";
    }

    /** Runs until it stops, at most 20000 steps. */
    static TurnerHeap ranOut(int room, String text) {
        TurnerHeap heap = read(room, text);
        for (int i = 0; i < 40 && heap.stopped() == 0; i++) {
            heap.run(500);
        }
        return heap;
    }

    static String times(String text, int n) {
        return text.repeat(n);
    }
}
