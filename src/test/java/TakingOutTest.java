import java.util.Random;

/** Names are taken out as by a plain recursion over trees, in many random expressions. */
public final class TakingOutTest {
    private static final String[] NAMES = {"a", "b", "c", "d"};
    private static final Random RANDOM = new Random(20);
    private static int compared = 0;

    private record Term(Term f, Term x, String leaf) {
        static Term leaf(String leaf) {
            return new Term(null, null, leaf);
        }

        static Term of(Term f, Term x) {
            return new Term(f, x, null);
        }

        boolean is(String constant) {
            return constant.equals(leaf);
        }

        boolean isApplication() {
            return f != null;
        }

        int applications() {
            return isApplication() ? 1 + f.applications() + x.applications() : 0;
        }

        boolean has(String name) {
            return isApplication() ? f.has(name) || x.has(name) : is(name);
        }
    }

    /** A text, and the term that is due for it. */
    private record Pair(String text, Term term) {
    }

    public static void main(String[] args) {
        for (int i = 0; i < 4000; i++) {
            compare(expression(2 + i % 5, 0));
        }
        Check.due("enough was compared", compared > 3000, true);
        Check.end("TakingOutTest");
    }

    private static void compare(Pair pair) {
        if (pair.text().length() > 240) {
            return;
        }
        TurnerHeap heap = Check.written(400, pair.text());
        int cells;
        try {
            cells = heap.read();
        } catch (IllegalStateException | UnsupportedOperationException e) {
            return;
        }
        compared++;
        int toLeft = 0;
        Term head = pair.term();
        while (head.isApplication()) {
            head = head.f();
            toLeft++;
        }
        Check.due("cells of " + pair.text(), cells, pair.term().applications());
        Check.due("to the left, " + pair.text(), heap.form(-1, 1), toLeft);
        Check.due("head of " + pair.text(), heap.form(-1, 2), code(head.leaf()));
    }

    private static int code(String leaf) {
        String[] constants = {"I", "K", "S", "B", "C", "S'", "B'", "C'"};
        for (int i = 0; i < constants.length; i++) {
            if (constants[i].equals(leaf)) {
                return i + 2;
            }
        }
        return leaf.equals("hd") ? 18 : 0;
    }

    private static Pair expression(int size, int inScope) {
        if (inScope < NAMES.length && RANDOM.nextInt(3) == 0) {
            Pair body = expression(size, inScope + 1);
            return new Pair("\\" + NAMES[inScope] + "." + body.text(), takeOut(NAMES[inScope], body.term()));
        }
        Pair all = atom(size, inScope);
        for (int n = RANDOM.nextInt(4); n > 0; n--) {
            Pair next = atom(size, inScope);
            all = new Pair(all.text() + " " + next.text(), Term.of(all.term(), next.term()));
        }
        return all;
    }

    private static Pair atom(int size, int inScope) {
        if (size > 0 && RANDOM.nextInt(2) == 0) {
            Pair inner = expression(size - 1, inScope);
            return new Pair("(" + inner.text() + ")", inner.term());
        }
        int which = RANDOM.nextInt(inScope + 2);
        String leaf = which < inScope ? NAMES[which] : which == inScope ? "7" : "hd";
        return new Pair(leaf, Term.leaf(leaf));
    }

    private static Term takeOut(String name, Term t) {
        if (t.is(name)) {
            return Term.leaf("I");
        }
        if (!t.has(name)) {
            return Term.of(Term.leaf("K"), t);
        }
        Term p = takeOut(name, t.f());
        Term q = takeOut(name, t.x());
        if (isK(p) && isK(q)) {
            return Term.of(Term.leaf("K"), Term.of(p.x(), q.x()));
        }
        if (isK(p) && q.is("I")) {
            return p.x();
        }
        if (isK(p) && p.x().isApplication()) {
            return three("B'", p.x().f(), p.x().x(), q);
        }
        if (isK(p)) {
            return two("B", p.x(), q);
        }
        if (isK(q)) {
            return isB(p) ? three("C'", p.f().x(), p.x(), q.x()) : two("C", p, q.x());
        }
        return isB(p) ? three("S'", p.f().x(), p.x(), q) : two("S", p, q);
    }

    private static boolean isK(Term t) {
        return t.isApplication() && t.f().is("K");
    }

    private static boolean isB(Term t) {
        return t.isApplication() && t.f().isApplication() && t.f().f().is("B");
    }

    private static Term two(String constant, Term a, Term b) {
        return Term.of(Term.of(Term.leaf(constant), a), b);
    }

    private static Term three(String constant, Term a, Term b, Term c) {
        return Term.of(two(constant, a, b), c);
    }
}
