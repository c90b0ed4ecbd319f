/** What comes out, and promises 7 and 8: length and letter. */
public final class PrintingTest {
    private static final String COUNT = "def c n=n:c (n+1);c 0";

    public static void main(String[] args) {
        mainValues();
        rows();
        rests();
        numbers();
        greatest();
        least();
        comparedNumbers();
        asSoonAsItIsKnown();
        lengths();
        letters();
        twoHundred();
        withinANumber();
        Check.end("PrintingTest");
    }

    private static void fate(String text, String fate) {
        Check.due(text, Check.fate(400, text), fate);
    }

    private static void mainValues() {
        Check.sentence("A number: its digits come out, TRUE: t, FALSE: f; it ENDS");
        fate("7", "7|1|1");
        fate("0", "0|1|1");
        fate("10", "10|1|1");
        fate("999999", "999999|1|1");
        fate("000120", "120|1|1");
        fate("1<2", "t|1|3");
        fate("2<1", "f|1|3");
    }

    private static void rows() {
        Check.sentence("A pair: its left side is evaluated, a number, TRUE or FALSE comes out so, and a space; this is a step");
        fate("[7]", "7 |1|2");
        fate("[7,8]", "7 8 |1|3");
        fate("[1<2,2<1,0-5]", "t f -5 |1|10");
        fate("[hd [1]]", "1 |1|4");
        fate("[[]]", "|2|0");
        fate("[[1]]", "|2|0");
        fate("[hd]", "|2|0");
        fate("[1,[]]", "1 |2|1");
    }

    private static void rests() {
        Check.sentence("its right side is the rest, evaluated like the main term, but a number, TRUE or FALSE is a type error there. NIL: it ends");
        fate("[]", "|1|1");
        fate("1:[]", "1 |1|2");
        fate("1:tl [2]", "1 |1|4");
        fate("1:2", "1 |2|1");
        fate("1:(1<2)", "1 |2|3");
        fate("1:(2<1)", "1 |2|3");
        fate("1:2:3", "1 2 |2|2");
        fate("1:(\\x.x)", "1 |2|1");
        fate("1:hd 2", "1 |2|1");
        fate("1:hd [2:[]]", "1 2 |1|5");
    }

    private static void numbers() {
        Check.sentence("its digits (with - before, if below 0)");
        fate("1-1", "0|1|3");
        fate("0-1", "-1|1|3");
        fate("0-10", "-10|1|3");
        fate("1-2*3", "-5|1|5");
        fate("0-999999", "-999999|1|3");
    }

    private static void greatest() {
        Check.sentence("I and the number (they wrap) - above the greatest");
        fate("65536*32767+65535", "2147483647|1|5");
        fate("65536*32767+65535+1", "-2147483648|1|7");
        fate("65536*32767+65536", "-2147483648|1|5");
        fate("65536*32768", "-2147483648|1|3");
        fate("65536*65535", "-65536|1|3");
        fate("65536*65536", "0|1|3");
        fate("46340*46340", "2147395600|1|3");
        fate("46341*46341", "-2147479015|1|3");
        fate("999999*999999", 999999 * 999999 + "|1|3");
    }

    private static void least() {
        Check.sentence("I and the number (they wrap) - below the least");
        fate("0-65536*32768", "-2147483648|1|5");
        fate("0-65536*32767-65535-1", "-2147483648|1|9");
        fate("0-65536*32767-65535-2", "2147483647|1|9");
        fate("65536*32768-1", "2147483647|1|5");
        fate("(0-1)*65536*32768", "-2147483648|1|7");
        fate("(0-46341)*46341", "2147479015|1|5");
    }

    private static void comparedNumbers() {
        Check.sentence("LESS, EQUAL a b: likewise; I TRUE or I FALSE");
        fate("2<3", "t|1|3");
        fate("3<3", "f|1|3");
        fate("4<3", "f|1|3");
        fate("0-1<0", "t|1|5");
        fate("0<0-1", "f|1|5");
        fate("2==3", "f|1|3");
        fate("3==3", "t|1|3");
        fate("0-3==3", "f|1|5");
        fate("65536*32768<0", "t|1|5");
        fate("65536*32768<65536*32768-1", "t|1|9");
        fate("65536*32768-1<65536*32768", "f|1|9");
        fate("65536*65536==0", "t|1|5");
    }

    private static void asSoonAsItIsKnown() {
        Check.sentence("what comes out is printed as soon as it is known");
        TurnerHeap heap = Check.read(100, "[1+2,hd 3]");
        String[] due = {"", "", "3 "};
        for (int i = 0; i < due.length; i++) {
            Check.due("step", heap.run(1), 1);
            Check.due("printed", Check.printed(heap), due[i]);
            Check.due("it goes", heap.stopped(), 0);
        }
        Check.due("then it stops", heap.run(1), 0);
        Check.due("what came out stays", Check.printed(heap) + heap.stopped(), "3 2");
    }

    private static void lengths() {
        Check.sentence("How many characters came out");
        TurnerHeap heap = new TurnerHeap(100);
        Check.due("a new object", heap.length(), 0);
        Check.write(heap, "12:0-5:(1<2):[]");
        Check.due("written", heap.length(), 0);
        heap.read();
        Check.due("read", heap.length(), 0);
        int[] due = {3, 3, 3, 6, 6, 6, 8, 8};
        for (int i = 0; i < due.length; i++) {
            heap.run(1);
            Check.due("after step " + (i + 1), heap.length(), due[i]);
        }
        Check.due("ended", heap.stopped(), 1);
        heap.erase();
        Check.due("the text is gone", heap.length(), 8);
        Check.write(heap, "[]");
        Check.due("another text", heap.length(), 8);
        heap.read();
        Check.due("read", heap.length(), 0);
        heap.run(500);
        Check.due("nothing comes out", heap.length(), 0);
    }

    private static void letters() {
        Check.sentence("IndexOutOfBoundsException, when there is none");
        TurnerHeap heap = Check.ran(100, "[12,0-3,1<2,2<1]", 500);
        String due = "12 -3 t f ";
        for (int i = 0; i < due.length(); i++) {
            Check.due("letter " + i, heap.letter(i), (int) due.charAt(i));
        }
        for (int i : new int[] {Integer.MIN_VALUE, -200, -1, due.length(), 199, 200, Integer.MAX_VALUE}) {
            Check.throwsDue("letter " + i, IndexOutOfBoundsException.class, () -> heap.letter(i));
        }
        heap.read();
        Check.throwsDue("read again", IndexOutOfBoundsException.class, () -> heap.letter(0));
        TurnerHeap none = Check.ran(100, "[]", 500);
        Check.throwsDue("nothing came out", IndexOutOfBoundsException.class, () -> none.letter(0));
    }

    /** 0 to 69, each with a space, are 200 characters. */
    private static void twoHundred() {
        Check.sentence("Character i, of the first 200 that came out");
        StringBuilder due = new StringBuilder();
        for (int i = 0; i <= 70; i++) {
            due.append(i).append(' ');
        }
        TurnerHeap heap = Check.ran(100, COUNT, 500);
        for (int i = 0; i < 100 && heap.length() < 197; i++) {
            heap.run(1);
        }
        Check.due("197 characters", heap.length(), 197);
        Check.due("letter 196", heap.letter(196), 32);
        Check.throwsDue("letter 197", IndexOutOfBoundsException.class, () -> heap.letter(197));
        for (int i = 0; i < 20 && heap.length() < 200; i++) {
            heap.run(1);
        }
        Check.due("200 characters", heap.length(), 200);
        Check.due("letter 199", heap.letter(199), 32);
        Check.throwsDue("letter 200", IndexOutOfBoundsException.class, () -> heap.letter(200));
        heap.run(500);
        Check.due("more characters", heap.length() > 203, true);
        for (int i = 0; i < 200; i++) {
            Check.due("letter " + i, heap.letter(i), (int) due.charAt(i));
        }
        for (int i : new int[] {-1, 200, 201, 202, Integer.MAX_VALUE}) {
            Check.throwsDue("letter " + i, IndexOutOfBoundsException.class, () -> heap.letter(i));
        }
    }

    /** 1 to 69, each with a space, are 198 characters: so of the next three two are kept. */
    private static void withinANumber() {
        Check.sentence("Character i, of the first 200 that came out (the 200th within a number)");
        TurnerHeap heap = Check.ran(100, "def c n=n:c (n+1);c 1", 500);
        for (int i = 0; i < 100 && heap.length() < 201; i++) {
            heap.run(1);
        }
        Check.due("201 characters", heap.length(), 201);
        Check.due("letter 198", heap.letter(198), (int) '7');
        Check.due("letter 199", heap.letter(199), (int) '0');
        Check.throwsDue("letter 200", IndexOutOfBoundsException.class, () -> heap.letter(200));
    }
}
