/** What each constant does with as many arguments as it needs, with fewer, and with more. */
public final class ArgumentsTest {
    /** A text for each constant, how many arguments it needs, and how many new cells its step needs. */
    private enum Rule {
        I("(\\x.x)", 1, 0),
        K("(\\x.\\y.x)", 2, 0),
        S("(\\f.\\g.\\x.f x (g x))", 3, 2),
        B("(\\f.\\g.\\x.f (g x))", 3, 1),
        C("(\\f.\\x.\\y.f y x)", 3, 1),
        S_PRIME("(\\k.\\f.\\g.\\x.k (f x) (g x))", 4, 3),
        B_PRIME("(\\k.\\f.\\g.\\x.k f (g x))", 4, 2),
        C_PRIME("(\\k.\\f.\\g.\\x.k (f x) g)", 4, 2);

        final String text;
        final int needed;
        final int newCells;

        Rule(String text, int needed, int newCells) {
            this.text = text;
            this.needed = needed;
            this.newCells = newCells;
        }
    }

    public static void main(String[] args) {
        rulesAreConstants();
        enoughArguments();
        tooFewArguments();
        tooFewForEvaluating();
        argumentsOfValues();
        threeForAPair();
        whatTheRulesMake();
        enoughRoom();
        tooLittleRoom();
        fullHeap();
        Check.end("ArgumentsTest");
    }

    private static String applied(Rule rule, int arguments) {
        return rule.text + " 1 2 3 4 5 6".substring(0, 2 * arguments);
    }

    private static void rulesAreConstants() {
        for (Rule rule : Rule.values()) {
            TurnerHeap heap = Check.read(40, rule.text);
            Check.due(rule + ": applications", heap.form(-1, 0), 0);
            Check.due(rule + ": constant", heap.form(-1, 2), rule.ordinal() + 2);
        }
    }

    private static void enoughArguments() {
        Check.sentence("Others, with as many arguments as they need, overwrite the cell of the last of these");
        for (Rule rule : Rule.values()) {
            for (int more = 0; more <= 2; more++) {
                TurnerHeap heap = Check.read(60, applied(rule, rule.needed + more));
                Check.due(rule + ": a step", heap.run(1), 1);
                Check.due(rule + ": it goes", heap.stopped(), 0);
                Check.due(rule + ": the root and those above stay", heap.count(4), rule == Rule.I ? more : more + 1);
            }
        }
    }

    private static void tooFewArguments() {
        Check.sentence("a constant with fewer arguments than it needs: a FUNCTION. A function: a type error");
        for (Rule rule : Rule.values()) {
            for (int arguments = 0; arguments < rule.needed; arguments++) {
                for (String text : new String[] {"_", "hd (_)", "nul (_)", "if _ then 1 else 2", "1+(_)"}) {
                    functionIn(text.replace("_", applied(rule, arguments)));
                }
                functionInRow(applied(rule, arguments));
            }
        }
    }

    private static void functionIn(String text) {
        TurnerHeap heap = Check.read(60, text);
        int cells = heap.reached();
        Check.due(text + ": no step", heap.run(9), 0);
        Check.due(text + ": a type error", heap.stopped(), 2);
        Check.due(text + ": no cell is changed", heap.reached(), cells);
    }

    /** The pair's own cells are no more reached: its left side is looked at. */
    private static void functionInRow(String function) {
        TurnerHeap heap = Check.ran(60, "[" + function + "]", 9);
        Check.due("[" + function + "]", Check.printed(heap) + heap.stopped() + heap.count(2), "20");
    }

    /** An argument that could be evaluated shows that nothing is. */
    private static void tooFewForEvaluating() {
        Check.sentence("a constant with fewer arguments than it needs (PAIR with one or none, too): a FUNCTION");
        String[] functions = {"\\c.\\t.\\e.if c then t else e", "\\t.\\e.if 1<2 then t else e", "\\e.if 1<2 then 3 else e",
            "\\a.\\b.a+b", "\\b.1*2+b", "\\a.\\b.a-b", "\\b.1+2-b", "\\a.\\b.a*b", "\\b.(1+2)*b", "\\a.\\b.a<b", "\\b.1+2<b",
            "\\a.\\b.a==b", "\\b.1+2==b", "\\a.\\b.a:b", "\\b.1+2:b", "hd", "tl", "nul"};
        for (String function : functions) {
            functionIn(function);
            functionIn("hd (" + function + ")");
            functionInRow(function);
        }
        String[] full = {"(\\e.if 1<2 then 3 else e) 4", "(\\b.1+b) 2", "(\\b.1-b) 2", "(\\b.1*b) 2", "(\\b.1<b) 2",
            "(\\b.1==b) 2", "hd [1]", "tl [1]", "nul [1]"};
        for (String text : full) {
            Check.due(text + ": ends", Check.ranOut(60, text).stopped(), 1);
        }
        Check.due("a pair", Check.fate(60, "(\\b.1:b) []"), "1 |1|2");
    }

    private static void argumentsOfValues() {
        Check.sentence("A number, TRUE, FALSE or NIL with arguments: a TYPE ERROR");
        for (int n = 1; n <= 3; n++) {
            String arguments = Check.times(" 1", n);
            typeErrorOnSpine("7" + arguments, 0, n);
            typeErrorOnSpine("[]" + arguments, 0, n);
            typeErrorOnSpine("(1<2)" + arguments, 2, n);
            typeErrorOnSpine("(2<1)" + arguments, 2, n);
            typeErrorOnSpine("(1+2)" + arguments, 2, n);
            typeErrorOnSpine("hd (7" + arguments + ")", 0, n + 1);
        }
        Check.due("7", Check.fate(40, "7"), "7|1|1");
        Check.due("[]", Check.fate(40, "[]"), "|1|1");
        Check.due("1<2", Check.fate(40, "1<2"), "t|1|3");
        Check.due("2<1", Check.fate(40, "2<1"), "f|1|3");
    }

    private static void typeErrorOnSpine(String text, int steps, int onSpine) {
        TurnerHeap heap = Check.ran(60, text, 500);
        Check.due(text + ": steps, stop", heap.count(2) + " " + heap.stopped(), steps + " 2");
        Check.due(text + ": on the spines", heap.count(4), onSpine);
    }

    private static void threeForAPair() {
        Check.sentence("PAIR with two: a pair; PAIR with more than two: a TYPE ERROR");
        Check.due("two", Check.fate(40, "1:[]"), "1 |1|2");
        Check.due("two", Check.fate(40, "hd (1:[])"), "1|1|3");
        typeErrorOnSpine("(1:[]) 2", 0, 3);
        typeErrorOnSpine("(1:[]) 2 3", 0, 4);
        typeErrorOnSpine("hd ((1:[]) 2)", 0, 4);
        typeErrorOnSpine("nul ([1] 2)", 0, 4);
    }

    private static void whatTheRulesMake() {
        Check.sentence("K x y: I x. S f g x: (f x) (g x). B f g x: f (g x). C f g x: (f x) g ..");
        prints("(\\x.x) 3", "3|1|2");
        prints("(\\x.\\y.x) 3 4", "3|1|3");
        prints(Rule.S.text + " (\\a.\\b.a-b) (\\c.c) 3", "0|1|5");
        prints(Rule.B.text + " (\\a.a+1) (\\b.b*2) 3", "7|1|8");
        prints(Rule.C.text + " (\\a.\\b.a-b) 3 5", "2|1|4");
        prints(Rule.S_PRIME.text + " (\\a.\\b.a-b) (\\c.c*2) (\\d.d+1) 5", "4|1|10");
        prints(Rule.B_PRIME.text + " (\\a.\\b.a-b) 9 (\\d.d+1) 5", "3|1|7");
        prints(Rule.C_PRIME.text + " (\\a.\\b.a-b) (\\c.c*2) 9 5", "1|1|7");
    }

    private static void prints(String text, String fate) {
        Check.due(text, Check.fate(100, text), fate);
    }

    private static TurnerHeap filled(Rule rule, int cells) {
        return Check.read(40, Check.filler(cells - rule.needed) + applied(rule, rule.needed));
    }

    private static void enoughRoom() {
        Check.sentence("(a step that needs new cells is done, when with all that are reached there are as many as the room)");
        for (Rule rule : Rule.values()) {
            for (int cells = 40 - rule.newCells; cells >= 38 - rule.newCells; cells--) {
                TurnerHeap heap = filled(rule, cells);
                Check.due(rule + ": cells", heap.reached(), cells);
                Check.due(rule + ": a step with " + cells, heap.run(1), 1);
                Check.due(rule + ": it goes", heap.stopped(), 0);
            }
        }
    }

    private static void tooLittleRoom() {
        Check.sentence("when a step needs new cells, and with all that are reached there would be more than the room (3)");
        for (Rule rule : Rule.values()) {
            for (int cells = 41 - rule.newCells; cells <= 40; cells++) {
                TurnerHeap heap = filled(rule, cells);
                Check.due(rule + ": no step with " + cells, heap.run(1), 0);
                Check.due(rule + ": no room", heap.stopped(), 3);
                Check.due(rule + ": no step is counted", heap.count(2), 0);
                Check.due(rule + ": no cell is changed", heap.reached(), cells);
                Check.due(rule + ": the spine stays", heap.count(4), rule.needed);
            }
        }
    }

    /** What evaluates its arguments makes no cells. */
    private static void fullHeap() {
        Check.sentence("(what needs no new cells is done in a full heap)");
        String[] texts = {"1+2", "3-1", "2*3", "1<2", "1==2", "hd [1]", "tl [1]", "nul []", "if 1<2 then 3 else 4", "[1,2]",
            "[1+2,3]", "1+2*3", "(\\x.x) 1", "(\\x.\\y.x) 1 2"};
        for (String text : texts) {
            int cells = Check.written(40, text).read();
            TurnerHeap heap = Check.read(40, Check.filler(40 - cells) + text);
            Check.due(text + ": full", heap.reached(), 40);
            heap.run(500);
            Check.due(text + ": ends", heap.stopped(), 1);
            Check.due(text + ": prints", Check.printed(heap), Check.printed(Check.ran(100, text, 500)));
        }
    }
}
