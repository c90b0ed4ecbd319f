/** What a text is cut into. Lexemes are told apart by their number, or by what comes out. */
public final class LexemeTest {
    private static final String LEXEME_SIGNS = "()[],:;.\\+-*<=";

    public static void main(String[] args) {
        characters();
        names();
        longNames();
        words();
        numbers();
        longNumbers();
        signs();
        longSigns();
        spaces();
        atMostHundred();
        allAreCutFirst();
        Check.end("LexemeTest");
    }

    private static void lexemes(String text, int lexemes) {
        Check.due("lexemes of " + text, Check.read(400, text).count(1), lexemes);
    }

    private static void prints(String text, String due) {
        Check.due("what " + text + " prints", Check.printed(Check.ran(400, text, 500)), due);
    }

    /** 101 lexemes are too many: which is only found, when nothing before them is wrong to cut. */
    private static void characters() {
        Check.sentence("LEXEMES: names of letters a .. z, numbers of digits, signs; spaces and line ends between");
        String many = Check.times(" 1", 101);
        for (char c = 32; c <= 126; c++) {
            boolean isLetterOrDigit = c >= 'a' && c <= 'z' || c >= '0' && c <= '9';
            if (isLetterOrDigit || c == ' ' || LEXEME_SIGNS.indexOf(c) >= 0) {
                Check.tooMuch(c + many);
            } else {
                Check.wrong(c + many);
                Check.wrong("1 " + c);
                Check.wrong("1 " + c + " 1");
            }
        }
        Check.tooMuch("\n" + many);
    }

    private static void names() {
        Check.sentence("NAMES: one to four letters a .. z");
        for (String name : new String[] {"a", "z", "az", "abc", "abcd", "zzzz", "aaaa", "deff", "de", "ifs", "the", "els"}) {
            lexemes("def " + name + "=4;" + name, 6);
            prints("def " + name + "=4;" + name, "4");
        }
        prints("def a=1;def aa=2;def aaa=3;def aaaa=4;def b=5;def ba=6;[a,aa,aaa,aaaa,b,ba]", "1 2 3 4 5 6 ");
        Check.wrong("def A=1;1");
        Check.wrong("def a1=1;1");
        Check.wrong("def =1;1");
    }

    private static void longNames() {
        Check.sentence("NAMES: one to four letters; always the longest one");
        lexemes("def abcd=1;def e=2;abcde", 12);
        lexemes("def abcd=1;def efgh=2;def i=3;abcdefghi", 18);
        prints("def abcd x=x;def e=2;abcde", "2");
        prints("def abcd x=x;def bcde=2;abcdbcde", "2");
        Check.wrong("def a x=x;def bcde=2;abcde");
        Check.due("a parameter behind the fourth letter", Check.read(40, "def abcde=1;2").form(0, 0), 1);
        Check.wrong("def abcd=1;abcde");
        Check.wrong("def abcd=1;def abce=2;abc");
    }

    private static void words() {
        Check.sentence("of which def, if, then and else are WORDS; always the longest one");
        prints("if 1<2then 3else 4", "3");
        prints("if 1<2 then(3)else[]", "3");
        prints("def a=5;if 1<2 thena elsea", "5");
        prints("def iff=6;iff", "6");
        prints("def defx=7;defx", "7");
        prints("def ifa=8;ifa", "8");
        Check.wrong("def a=5;ifa then 1 else 2");
        Check.wrong("defa=5;a");
        Check.wrong("def a=5;if 1<2 the n 1 else 2");
    }

    private static void numbers() {
        Check.sentence("NUMBERS: one to six digits");
        for (String number : new String[] {"0", "1", "9", "10", "99", "100", "12345", "100000", "123456", "999999"}) {
            lexemes(number, 1);
            prints(number, number);
        }
        for (int digit = 0; digit <= 9; digit++) {
            prints(Integer.toString(digit), Integer.toString(digit));
        }
        prints("000000", "0");
        prints("000001", "1");
        prints("009", "9");
    }

    private static void longNumbers() {
        Check.sentence("NUMBERS: one to six digits; always the longest one");
        lexemes("1234567", 2);
        lexemes("123456789012", 2);
        lexemes("1234567890123", 3);
        prints("(\\x.\\y.y)1234567", "7");
        prints("(\\x.\\y.x)1234567", "123456");
        prints("(\\x.\\y.y)123456789012", "789012");
        lexemes("def a=1;a1a1", 9);
    }

    private static void signs() {
        Check.sentence("SIGNS: ( ) [ ] , : ; . \\ + - * < = and ==");
        lexemes("(1)", 3);
        lexemes("[1,2]", 5);
        lexemes("1:2", 3);
        lexemes("\\x.x", 4);
        lexemes("1+2-3*4", 7);
        lexemes("1<2", 3);
        lexemes("1==2", 3);
        lexemes("def f=1;2", 6);
        for (String not : new String[] {"1>2", "1/2", "1%2", "{1}", "1|2", "1&2", "1^2", "1!", "1?", "\"1\"", "'1'", "_", "1@2", "#1", "$", "~1", "`1"}) {
            Check.wrong(not);
        }
    }

    private static void longSigns() {
        Check.sentence("= and ==; always the longest one");
        prints("1==1", "t");
        prints("1==2", "f");
        Check.wrong("1= =1");
        Check.wrong("1=1");
        Check.wrong("1===1");
        Check.wrong("1====1");
        Check.wrong("def f==1;2");
        Check.wrong("def f= =1;2");
        String ninetyNine = "1" + Check.times(" 1", 98);
        Check.wrong(ninetyNine + "==");
        Check.tooMuch(ninetyNine + "= =");
        Check.tooMuch(ninetyNine + "===");
        Check.wrong(ninetyNine + "=");
        Check.wrong(Check.times(" ", 239) + "=");
        Check.wrong(Check.times(" ", 236) + "1 ==");
    }

    private static void spaces() {
        Check.sentence("between which may stand spaces and line ends");
        for (String text : new String[] {"1", " 1", "1 ", "\n1", "1\n", " \n \n1 \n \n"}) {
            lexemes(text, 1);
            prints(text, "1");
        }
        lexemes("12 34", 2);
        lexemes("12\n34", 2);
        prints("(\\x.\\y.y)12\n34", "34");
        prints(Check.times(" ", 239) + "1", "1");
        prints("1" + Check.times("\n", 239), "1");
        Check.wrong("");
        Check.wrong(" ");
        Check.wrong("\n");
        Check.wrong(Check.times(" ", 240));
        Check.wrong("1 = = 1");
        prints("def a=1;def b=2;(\\x.\\y.x)a b", "1");
        Check.wrong("def a=1;def b=2;(\\x.\\y.x)ab");
    }

    private static void atMostHundred() {
        Check.sentence("at most 100; IllegalStateException, when there would be more than 100 lexemes");
        lexemes("1" + Check.times(" 1", 98), 99);
        lexemes("1" + Check.times(" 1", 99), 100);
        Check.tooMuch("1" + Check.times(" 1", 100));
        Check.tooMuch("1" + Check.times(" 1", 119));
        lexemes("(1" + Check.times(" 1", 97) + ")", 100);
        Check.tooMuch("(1" + Check.times(" 1", 98) + ")");
        lexemes("1" + Check.times(" 1", 97) + "==1", 100);
        Check.tooMuch("1" + Check.times(" 1", 98) + "==1");
        lexemes("def a=1" + Check.times("(a)", 31) + ";a 1", 100);
        lexemes(Check.times("1 ", 100) + Check.times(" ", 40), 100);
        lexemes(Check.times("123456", 40), 40);
        lexemes("def a=" + Check.times("a+", 47) + "a;a", 100);
    }

    private static void allAreCutFirst() {
        Check.sentence("(all are cut first)");
        String hundred = Check.times("1 ", 100);
        Check.tooMuch(") " + hundred);
        Check.tooMuch("x " + hundred);
        Check.tooMuch("def def def " + hundred);
        Check.tooMuch(hundred + ")");
        Check.tooMuch(Check.times("(", 20) + hundred);
        Check.wrong(") A");
        Check.wrong(Check.times("(", 20) + "A");
        Check.wrong(Check.times("def a=1;", 9) + "A");
        Check.wrong("A " + hundred + "1");
        Check.wrong(hundred + "A");
    }
}
