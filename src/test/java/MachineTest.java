/** Promises 5 and 6: the machine's steps, what it prints, and how it stops. */
public final class MachineTest {
    private static final String DEEPER = "def f x=f x x;f 1";

    public static void main(String[] args) {
        eachConstant();
        sharing();
        programs();
        printing();
        numbers();
        typeErrors();
        noRoom();
        tooDeep();
        runCalls();
        stopsLate();
        Check.end("MachineTest");
    }

    private static void fate(String text, String fate) {
        Check.due(text, Check.fate(400, text), fate);
    }

    private static void eachConstant() {
        fate("(\\x.x) 3", "3|1|2");
        fate("(\\x.\\y.x) 3 4", "3|1|3");
        fate("(\\f.\\g.\\x.f x (g x)) (\\a.\\b.b) (\\c.c) 3", "3|1|6");
        fate("(\\f.\\g.\\x.f (g x)) (\\a.a) (\\b.b) 3", "3|1|4");
        fate("(\\f.\\x.\\y.f y x) (\\a.\\b.a) 3 4", "4|1|4");
        fate("(\\x.hd (tl x) (tl x)) 1", "|2|1");
        fate("(\\x.x+1-x) 4", "1|1|8");
        fate("(\\x.1+(x+2)) 4", "7|1|7");
        fate("(\\x.x+1+2) 4", "7|1|7");
        fate("if 1<2 then 3 else 4", "3|1|5");
        fate("if 2<1 then 3 else 4", "4|1|5");
        fate("1+2", "3|1|3");
        fate("hd [5]", "5|1|3");
        fate("tl [5]", "|1|3");
        fate("tl [5,6]", "6 |1|4");
        fate("nul []", "t|1|3");
        fate("nul [1]", "f|1|3");
        fate("hd [\\x.x+1] 4", "5|1|6");
        fate("def a=4;a", "4|1|2");
    }

    private static void sharing() {
        fate("(\\x.x+x) (1+2)", "6|1|8");
        fate("def a=1+2;a+a", "6|1|8");
        fate("(\\x.1) ((\\x.x x) (\\x.x x))", "1|1|3");
        fate("if 1<2 then 1 else hd 3", "1|1|5");
        fate("hd (1:hd 2)", "1|1|3");
    }

    private static void programs() {
        fate("def fac n=if n<1 then 1 else n*fac (n-1);fac 5", "120|1|92");
        fate("def map f l=if nul l then [] else f (hd l):map f (tl l);map (\\x.x*x) [1,2,3]", "1 4 9 |1|88");
        fate("def y f=f (y f);y (\\f.\\n.if n<2 then n else f (n-1)+f (n-2)) 6", "8|1|400");
        fate("def app a b=if nul a then b else hd a:app (tl a) b;app [1,2] [3]", "1 2 3 |1|46");
        fate("def ones=1:ones;hd (tl (tl ones))", "1|1|10");
    }

    private static void printing() {
        fate("7", "7|1|1");
        fate("1<2", "t|1|3");
        fate("1==2", "f|1|3");
        fate("[]", "|1|1");
        fate("[1<2,2<1,0-5]", "t f -5 |1|10");
        fate("1:2", "1 |2|1");
        fate("1:(1<2)", "1 |2|3");
        fate("1:(\\x.x)", "1 |2|1");
        fate("[1,[]]", "1 |2|1");
        fate("[[1]]", "|2|0");
        fate("1:hd 2", "1 |2|1");
        TurnerHeap heap = Check.read(100, "1:hd 2");
        Check.due("printed as soon as it is known", heap.run(1), 1);
        Check.due("before the rest is looked at", Check.printed(heap) + heap.stopped(), "1 0");
    }

    private static void numbers() {
        fate("0", "0|1|1");
        fate("000120", "120|1|1");
        fate("999999", "999999|1|1");
        fate("0-1", "-1|1|3");
        fate("65536*32768", "-2147483648|1|3");
        fate("65536*32768-1", "2147483647|1|5");
        fate("65536*65536", "0|1|3");
        fate("65536*32767+65535", "2147483647|1|5");
        fate("65536*32767+65535+1<0", "t|1|9");
        fate("999999*999999", 999999 * 999999 + "|1|3");
        fate("0-1<0", "t|1|5");
        fate("3<3", "f|1|3");
        fate("3==3", "t|1|3");
    }

    private static void typeErrors() {
        String[] texts = {"\\x.x", "\\x.1", "hd", "1:1 1", "1 2", "[] 1", "(1<2) 1", "[1] 2", "nul [] 1", "if 1 then 2 else 3",
            "if [] then 2 else 3", "if hd then 2 else 3", "if [1] then 2 else 3", "1+[]", "[]+1", "1+(1<2)", "(1<2)==(1<2)",
            "hd+1", "1<[1]", "hd 3", "hd []", "tl []", "tl 3", "hd (1<2)", "nul 3", "nul hd", "nul (1<2)", "hd (\\x.x)", "1 : 2", "[[]]"};
        for (String text : texts) {
            Check.due(text + " stops", Check.ran(100, text, 500).stopped(), 2);
        }
        fate("[]+((\\x.x x) (\\x.x x))", "|2|0");
        fate("hd [1] 2", "|2|2");
        fate("(\\f.\\g.\\x.f x (g x)) 1 2", "|2|0");
        fate("hd ((\\f.\\g.\\x.f x (g x)) 1 2)", "|2|0");
        fate("nul ((\\x.1:x))", "|2|0");
        fate("hd (\\x.\\y.x:y)", "|2|0");
        Check.due("a pair that is none", Check.fate(100, "hd ((\\x.x) 1)"), "|2|1");
    }

    private static void noRoom() {
        Check.due("room 40", Check.fate(40, DEEPER), "|3|37");
        Check.due("room 41", Check.fate(41, DEEPER), "|3|39");
        TurnerHeap heap = Check.ran(41, DEEPER, 500);
        Check.due("all are reached", heap.reached(), 41);
        Check.due("on the spine", heap.count(4), 22);
        Check.due("what is no more reached is swept", Check.ran(40, "def c n=n:c (n+1);c 0", 500).stopped(), 0);
        Check.due("a loop needs little", Check.fate(40, "def l n=if n==0 then 7 else l (n-1);l 300").substring(0, 4), "7|1|");
    }

    private static void tooDeep() {
        Check.due("151 cells", Check.fate(400, DEEPER), "|4|297");
        TurnerHeap heap = Check.ran(400, DEEPER, 500);
        Check.due("most", heap.count(3), 150);
        Check.due("now", heap.count(4), 150);
        Check.due("41 upper spines", Check.fate(400, "def f x=f x+1;f 1"), "|4|82");
        String depth = "def f x=if x==0 then 0 else f (x-1)+1;";
        Check.due("40 upper spines", Check.fate(400, depth + "f 37").substring(0, 5), "37|1|");
        Check.due("41 upper spines", Check.fate(400, depth + "f 38").substring(0, 3), "|4|");
        Check.due("a left side has the first spine", Check.fate(400, depth + "[f 37]").substring(0, 6), "37 |1|");
        Check.due("and no more", Check.fate(400, depth + "[f 38]").substring(0, 3), "|4|");
    }

    private static void runCalls() {
        TurnerHeap heap = Check.read(100, "def a=a;a");
        Check.due("1", heap.run(1), 1);
        Check.due("500", heap.run(500), 500);
        Check.due("it goes", heap.stopped(), 0);
        for (int n : new int[] {Integer.MIN_VALUE, -1, 0, 501, Integer.MAX_VALUE}) {
            Check.throwsDue("run " + n, IllegalArgumentException.class, () -> heap.run(n));
            Check.throwsDue("run " + n + ", nothing read", IllegalArgumentException.class, () -> new TurnerHeap(50).run(n));
        }
        Check.due("steps", heap.count(2), 501);
        TurnerHeap ended = Check.read(100, "1+2");
        Check.due("run on", ended.run(2), 2);
        Check.due("goes", ended.stopped(), 0);
        Check.due("to the end", ended.run(2), 1);
        Check.due("ended", ended.stopped(), 1);
        Check.throwsDue("ended before", IllegalStateException.class, () -> ended.run(1));
        Check.throwsDue("ended before, wrong n", IllegalArgumentException.class, () -> ended.run(0));
        ended.read();
        Check.due("read again", ended.run(500), 3);
    }

    /** What is no step is done when the next step is asked for. */
    private static void stopsLate() {
        TurnerHeap heap = Check.read(100, "1:2");
        Check.due("one step", heap.run(1), 1);
        Check.due("it goes", heap.stopped(), 0);
        Check.due("no step", heap.run(1), 0);
        Check.due("type error", heap.stopped(), 2);
        Check.throwsDue("stopped before", IllegalStateException.class, () -> heap.run(1));
        Check.due("no step was counted", heap.count(2), 1);
        TurnerHeap last = Check.read(100, "[1]");
        Check.due("two steps", last.run(2), 2);
        Check.due("the last one ends it", last.stopped(), 1);
    }
}
