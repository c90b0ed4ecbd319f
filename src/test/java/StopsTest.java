/** Promises 5 and 6: how far it runs, and how it stops, on both sides of each bound. */
public final class StopsTest {
    private static final String COUNT = "def c n=n:c (n+1);c 0";
    private static final String DEEPER = "def f x=f x x;f 1";
    /** _ cells more than those of g come upon the spines. */
    private static final String EATEN = "def e n a b=if n==0 then _ else e (n-1);def g k=if k==0 then e # else g (k-1) 1 1;";

    public static void main(String[] args) {
        stepsOfACall();
        wrongNumbersOfSteps();
        untilItStops();
        notAfterAStop();
        howItStopped();
        endingIsAStep();
        stopsAreNoSteps();
        stopsChangeNoCell();
        valuesOfAnotherKind();
        firstOperandFirst();
        cellsOnOneSpine();
        cellsOnAllSpines();
        fortyUpperSpines();
        upperSpinesOfEach();
        spinesOfTheLeftSide();
        roomWithAllThatIsReached();
        sweptCells();
        restIsReached();
        Check.end("StopsTest");
    }

    private static void stepsOfACall() {
        Check.sentence("Up to n (1 .. 500) steps");
        TurnerHeap heap = Check.read(100, "def a=a;a");
        int all = 0;
        for (int n : new int[] {1, 2, 3, 499, 500, 1, 500}) {
            Check.due("run " + n, heap.run(n), n);
            all += n;
            Check.due("steps", heap.count(2), all);
            Check.due("it goes", heap.stopped(), 0);
        }
    }

    private static void wrongNumbersOfSteps() {
        Check.sentence("IllegalArgumentException, when n is not so");
        TurnerHeap goes = Check.ran(100, "def a=a;a", 7);
        TurnerHeap ended = Check.ran(100, "1", 1);
        for (int n : new int[] {Integer.MIN_VALUE, -500, -1, 0, 501, 502, 1000, Integer.MAX_VALUE}) {
            Check.throwsDue("run " + n, IllegalArgumentException.class, () -> goes.run(n));
            Check.throwsDue("run " + n + ", nothing read", IllegalArgumentException.class, () -> new TurnerHeap(50).run(n));
            Check.throwsDue("run " + n + ", ended", IllegalArgumentException.class, () -> ended.run(n));
        }
        Check.due("nothing was done", goes.count(2), 7);
        Check.due("it goes", goes.stopped(), 0);
    }

    private static void untilItStops() {
        Check.sentence("until it stops: how many were done");
        String text = "[1+2,3]";
        for (int n = 1; n <= 8; n++) {
            TurnerHeap heap = Check.read(100, text);
            Check.due("run " + n, heap.run(n), Math.min(n, 5));
            Check.due("stopped after " + n, heap.stopped(), n < 5 ? 0 : 1);
        }
        TurnerHeap heap = Check.read(100, text);
        for (int i = 1; i <= 5; i++) {
            Check.due("one by one", heap.run(1), 1);
            Check.due("stopped", heap.stopped(), i < 5 ? 0 : 1);
        }
        Check.due("no step at all", Check.read(100, "1 2").run(500), 0);
    }

    private static void notAfterAStop() {
        Check.sentence("IllegalStateException, when nothing is read, or it has stopped before");
        Check.throwsDue("nothing is read", IllegalStateException.class, () -> new TurnerHeap(50).run(1));
        Check.throwsDue("only written", IllegalStateException.class, () -> Check.written(50, "1").run(500));
        String[] texts = {"1", "[]", "1 2", "1:2", DEEPER, "1" + Check.times("+1", 41)};
        for (String text : texts) {
            TurnerHeap heap = Check.ranOut(100, text);
            int steps = heap.count(2);
            Check.throwsDue("run 1, " + text, IllegalStateException.class, () -> heap.run(1));
            Check.throwsDue("run 500, " + text, IllegalStateException.class, () -> heap.run(500));
            Check.due("no step", heap.count(2), steps);
        }
    }

    private static void howItStopped() {
        Check.sentence("How it stopped (1 .. 4); 0 while it goes; -1 when nothing is read");
        Check.due("nothing is read", new TurnerHeap(50).stopped(), -1);
        Check.due("written", Check.written(50, "1").stopped(), -1);
        Check.due("read", Check.read(50, "1").stopped(), 0);
        Check.due("goes", Check.ran(50, COUNT, 500).stopped(), 0);
        Check.due("ended", Check.ran(50, "1", 1).stopped(), 1);
        Check.due("type error", Check.ran(50, "1 1", 1).stopped(), 2);
        Check.due("no room", Check.ran(50, DEEPER, 500).stopped(), 3);
        Check.due("too deep", Check.ran(400, DEEPER, 500).stopped(), 4);
    }

    private static void endingIsAStep() {
        Check.sentence("(Ending is a step, with what comes out by it.)");
        for (String text : new String[] {"7", "[]"}) {
            TurnerHeap heap = Check.read(50, text);
            Check.due(text + ": a step", heap.run(1), 1);
            Check.due(text + ": ended", heap.stopped(), 1);
            Check.due(text + ": steps", heap.count(2), 1);
        }
        TurnerHeap heap = Check.ran(50, "1+2", 2);
        Check.due("not yet", heap.stopped() + heap.length(), 0);
        Check.due("the last step", heap.run(1), 1);
        Check.due("ended", Check.printed(heap) + heap.stopped(), "31");
        TurnerHeap row = Check.ran(50, "[4]", 1);
        Check.due("4 is out, but it goes", Check.printed(row) + row.stopped(), "4 0");
        Check.due("the end of a row", row.run(1) + row.stopped(), 2);
    }

    private static void stopsAreNoSteps() {
        Check.sentence("What stops it but 1 is no step");
        stop("1:2", 100, 1, 2);
        stop("1 2", 100, 0, 2);
        stop("hd [1] 2", 100, 2, 2);
        stop(DEEPER, 40, 37, 3);
        stop(DEEPER, 41, 39, 3);
        stop(DEEPER, 400, 297, 4);
        stop("def f x=f x+1;f 1", 400, 82, 4);
        stop("1" + Check.times("+1", 41), 400, 0, 4);
    }

    /** After the last step it still goes; the next run does none, and tells the stop. */
    private static void stop(String text, int room, int steps, int how) {
        TurnerHeap heap = Check.read(room, text);
        Check.due(text + ": steps", heap.run(500), steps);
        Check.due(text + ": stop", heap.stopped(), how);
        Check.due(text + ": counted", heap.count(2), steps);
        if (steps > 0) {
            TurnerHeap late = Check.ran(room, text, steps);
            Check.due(text + ": it goes", late.stopped(), 0);
            Check.due(text + ": no step", late.run(1), 0);
            Check.due(text + ": stop", late.stopped(), how);
        }
    }

    private static void stopsChangeNoCell() {
        Check.sentence("What stops it but 1 changes no cell");
        String[][] stops = {{"1 2", "0"}, {"1+[2]", "0"}, {"hd [1] 2", "2"}, {"1+hd 2", "0"}, {"[]+(1+2)", "0"},
            {"if 1+2 then 3 else 4", "2"}, {"1" + Check.times("+1", 41), "0"}, {"def f x=f x+1;f 1", "82"}, {DEEPER, "297"}};
        for (String[] stop : stops) {
            int steps = Integer.parseInt(stop[1]);
            TurnerHeap heap = Check.read(400, stop[0]);
            if (steps > 0) {
                heap.run(steps);
            }
            int reached = heap.reached();
            Check.due(stop[0] + ": no step", heap.run(1), 0);
            Check.due(stop[0] + ": stopped", heap.stopped() > 1, true);
            Check.due(stop[0] + ": reached", heap.reached(), reached);
        }
    }

    private static void valuesOfAnotherKind() {
        Check.sentence("and a value of another kind than told: a TYPE ERROR");
        String[] values = {"3", "1<2", "2<1", "[]", "[1]", "hd", "\\x.1"};
        String[] kinds = {"number", "truth", "truth", "nil", "pair", "function", "function"};
        String[][] takers = {{"if _ then 1 else 2", "truth"}, {"(_)+1", "number"}, {"1+(_)", "number"}, {"(_)-1", "number"},
            {"1-(_)", "number"}, {"(_)*1", "number"}, {"1*(_)", "number"}, {"(_)<1", "number"}, {"1<(_)", "number"},
            {"(_)==1", "number"}, {"1==(_)", "number"}, {"hd (_)", "pair"}, {"(\\x.1) (tl (_))", "any"},
            {"nul (tl (_))", "pair"}, {"nul (_)", "nil pair"}, {"_", "number truth nil pair"}, {"[_]", "number truth"},
            {"1:(_)", "nil pair"}};
        for (String[] taker : takers) {
            for (int i = 0; i < values.length; i++) {
                String text = taker[0].replace("_", values[i]);
                boolean fits = taker[1].equals("any") || taker[1].contains(kinds[i]);
                Check.due(text, Check.ranOut(100, text).stopped(), fits ? 1 : 2);
            }
        }
    }

    private static void firstOperandFirst() {
        Check.sentence("ADD, SUB, MUL a b: a, then b is evaluated; LESS, EQUAL a b: likewise");
        for (String sign : new String[] {"+", "-", "*", "<", "=="}) {
            Check.due(sign + ": a is wrong, b is not evaluated", Check.fate(100, "[]" + sign + "(1+2)"), "|2|0");
            Check.due(sign + ": a is evaluated, b is wrong", Check.fate(100, "(1+2)" + sign + "[]"), "|2|2");
            Check.due(sign + ": a is evaluated, then b", Check.fate(100, "(1+2)" + sign + "hd [hd]"), "|2|4");
        }
    }

    private static String eaten(int deep, String last, String main) {
        return EATEN.replace("_", last).replace("#", Integer.toString(deep)) + main;
    }

    private static void cellsOnOneSpine() {
        Check.sentence("its SPINE, at most 150 in all; when a 151st cell would come upon the spines (4)");
        TurnerHeap heap = Check.ranOut(400, eaten(70, "7", "g 71"));
        Check.due("150 cells", Check.printed(heap) + " " + heap.stopped() + " " + heap.count(3), "7 1 150");
        heap = Check.ranOut(400, eaten(69, "\\z.7", "g 70 1"));
        Check.due("149 cells", Check.printed(heap) + " " + heap.stopped() + " " + heap.count(3), "7 1 149");
        heap = Check.ranOut(400, eaten(70, "\\z.7", "g 71 1"));
        Check.due("151 cells", Check.printed(heap) + " " + heap.stopped() + " " + heap.count(3), " 4 150");
        Check.due("150 stay", heap.count(4), 150);
        heap = Check.ranOut(400, DEEPER);
        Check.due("it stops with 150", heap.stopped() + " " + heap.count(3) + " " + heap.count(4), "4 150 150");
    }

    private static void cellsOnAllSpines() {
        Check.sentence("(in all: those of the upper spines count, too)");
        TurnerHeap heap = Check.ranOut(400, eaten(69, "7", "1+g 70"));
        Check.due("150 cells on two", Check.printed(heap) + " " + heap.stopped() + " " + heap.count(3), "8 1 150");
        heap = Check.ranOut(400, eaten(69, "\\z.7", "1+g 70 1"));
        Check.due("151 cells on two", Check.printed(heap) + " " + heap.stopped() + " " + heap.count(3), " 4 150");
        heap = Check.ranOut(400, eaten(68, "7", "1+(1+g 69)"));
        Check.due("150 cells on three", Check.printed(heap) + " " + heap.stopped() + " " + heap.count(3), "9 1 150");
        heap = Check.ranOut(400, eaten(68, "\\z.7", "1+(1+g 69 1)"));
        Check.due("151 cells on three", Check.printed(heap) + " " + heap.stopped() + " " + heap.count(3), " 4 150");
    }

    /** A sum is put together from the left: so each + has a spine for the one before it. */
    private static void fortyUpperSpines() {
        Check.sentence("with a spine of its own upon the others, at most 40 of them; or a 41st spine upon the first one (4)");
        TurnerHeap heap = Check.ranOut(400, "1" + Check.times("+1", 39));
        Check.due("39", Check.printed(heap) + " " + heap.stopped() + " " + heap.count(3), "40 1 78");
        heap = Check.ranOut(400, "1" + Check.times("+1", 40));
        Check.due("40", Check.printed(heap) + " " + heap.stopped() + " " + heap.count(3), "41 1 80");
        heap = Check.ranOut(400, "1" + Check.times("+1", 41));
        Check.due("41", Check.printed(heap) + " " + heap.stopped() + " " + heap.count(3), " 4 82");
        Check.due("the cells stay", heap.count(4), 82);
        Check.due("no step", heap.count(2), 0);
    }

    /** The sum that stands at a taker's argument is one spine deeper. */
    private static void upperSpinesOfEach() {
        Check.sentence("(the spine of each argument that is evaluated counts)");
        String[] takers = {"1+(_)", "1-(_)", "1*(_)", "1<(_)", "1==(_)", "(_)-1", "(_)*1", "(_)<1", "(_)==1", "if _==0 then 1 else 2",
            "hd (if _==0 then [1] else [1])", "tl (if _==0 then [1] else [1])", "nul (if _==0 then [1] else [1])"};
        for (String taker : takers) {
            int deeper = taker.contains("if") ? taker.startsWith("if") ? 2 : 3 : 1;
            String most = taker.replace("_", "1" + Check.times("+1", 40 - deeper));
            Check.due(most, Check.ranOut(400, most).stopped(), 1);
            String more = taker.replace("_", "1" + Check.times("+1", 41 - deeper));
            Check.due(more, Check.ranOut(400, more).stopped(), 4);
        }
    }

    private static void spinesOfTheLeftSide() {
        Check.sentence("A pair: its left side is evaluated (on the first spine, because the pair's is gone)");
        String most = "1" + Check.times("+1", 40);
        Check.due("left side, 40", Check.fate(400, "[" + most + "]").substring(0, 5), "41 |1");
        Check.due("left side, 41", Check.fate(400, "[" + most + "+1]"), "|4|0");
        Check.due("second left side, 40", Check.fate(400, "[1," + most + "]").substring(0, 7), "1 41 |1");
        Check.due("second left side, 41", Check.fate(400, "[1," + most + "+1]"), "1 |4|1");
        TurnerHeap heap = Check.ranOut(400, "[" + most + "]");
        Check.due("cells", heap.count(3), 80);
    }

    private static void roomWithAllThatIsReached() {
        Check.sentence("when a step needs new cells, and with all that are reached there would be more than the room (3)");
        for (int room = 40; room <= 120; room++) {
            TurnerHeap heap = Check.ranOut(room, DEEPER);
            Check.due("room " + room, heap.stopped(), 3);
            Check.due("nearly all are reached in room " + room, heap.reached() >= room - 1 && heap.reached() <= room, true);
        }
        String program = "def s k=if k==0 then 0 else k+s (k-1);s 9";
        int least = 40;
        while (least < 400 && Check.ranOut(least, program).stopped() == 3) {
            least++;
        }
        Check.due("the least room for s 9", least, 55);
        Check.due("more room", Check.printed(Check.ranOut(least + 1, program)), "45");
    }

    private static void sweptCells() {
        Check.sentence("from which what is no more reached is swept");
        TurnerHeap heap = Check.read(40, COUNT);
        for (int i = 0; i < 60; i++) {
            Check.due("run", heap.run(500), 500);
        }
        Check.due("it goes", heap.stopped(), 0);
        Check.due("a loop", Check.fate(40, "def l n=if n==0 then 7 else l (n-1);l 300").substring(0, 4), "7|1|");
        Check.due("a row", Check.printed(Check.ranOut(40, "def n k=if k==0 then [] else k:n (k-1);n 30")).length(), 81);
    }

    /** The rest waits while the left side is evaluated: were it not reached, its cells would be taken. */
    private static void restIsReached() {
        Check.sentence("what is AT HAND: the term that is looked at, all cells of spines, and the rest that is to be printed");
        String loop = "def l n=if n==0 then 7 else l (n-1);";
        Check.due("the rest", Check.printed(Check.ranOut(40, loop + "[l 99,1+2,3*4]")), "7 3 12 ");
        Check.due("a spine", Check.printed(Check.ranOut(40, loop + "l 9+(1+2)*3")), "16");
        Check.due("two spines", Check.printed(Check.ranOut(40, loop + "1+2*(l 9-(2+3))")), "5");
        Check.due("a definition", Check.printed(Check.ranOut(40, "def a=[5,6];" + loop + "l 99:a")), "7 5 6 ");
    }
}
