/** The machine's steps, ordinary ones: how many there are, what is shared, and programs. */
public final class MachineTest {
    public static void main(String[] args) {
        eachConstant();
        sharing();
        programs();
        Check.end("MachineTest");
    }

    private static void fate(String text, String fate) {
        Check.due(text, Check.fate(400, text), fate);
    }

    private static void eachConstant() {
        fate("(\\f.\\g.\\x.f x (g x)) (\\a.\\b.b) (\\c.c) 3", "3|1|6");
        fate("(\\f.\\g.\\x.f (g x)) (\\a.a) (\\b.b) 3", "3|1|4");
        fate("(\\f.\\x.\\y.f y x) (\\a.\\b.a) 3 4", "4|1|4");
        fate("(\\x.hd (tl x) (tl x)) 1", "|2|1");
        fate("(\\x.x+1-x) 4", "1|1|8");
        fate("(\\x.1+(x+2)) 4", "7|1|7");
        fate("(\\x.x+1+2) 4", "7|1|7");
        fate("if 1<2 then 3 else 4", "3|1|5");
        fate("if 2<1 then 3 else 4", "4|1|5");
        fate("1+2", "3|1|3");
        fate("hd [5]", "5|1|3");
        fate("tl [5]", "|1|3");
        fate("tl [5,6]", "6 |1|4");
        fate("nul []", "t|1|3");
        fate("nul [1]", "f|1|3");
        fate("hd [\\x.x+1] 4", "5|1|6");
        fate("def a=4;a", "4|1|2");
    }

    private static void sharing() {
        fate("(\\x.x+x) (1+2)", "6|1|8");
        fate("def a=1+2;a+a", "6|1|8");
        fate("(\\x.1) ((\\x.x x) (\\x.x x))", "1|1|3");
        fate("if 1<2 then 1 else hd 3", "1|1|5");
        fate("hd (1:hd 2)", "1|1|3");
    }

    private static void programs() {
        fate("def fac n=if n<1 then 1 else n*fac (n-1);fac 5", "120|1|92");
        fate("def map f l=if nul l then [] else f (hd l):map f (tl l);map (\\x.x*x) [1,2,3]", "1 4 9 |1|88");
        fate("def y f=f (y f);y (\\f.\\n.if n<2 then n else f (n-1)+f (n-2)) 6", "8|1|400");
        fate("def app a b=if nul a then b else hd a:app (tl a) b;app [1,2] [3]", "1 2 3 |1|46");
        fate("def ones=1:ones;hd (tl (tl ones))", "1|1|10");
    }
}
