/** The boundary cases of the document's sentences on TOLD. Each method has the sentence that it tests above it. */
public final class ToldBoundsTest {
    public static void main(String[] args) {
        theDocumentsOwn();
        lists();
        blanks();
        anonymous();
        numbers();
        names();
        sidesOfSums();
        sidesWithinSides();
        partsOfRowsAndNot();
        partsOfChoices();
        partsOfTests();
        longest();
        Check.finish();
    }

    /** A text of one ITEM that is told as want, which reads as it does and is told as itself. */
    private static void told(String text, String want) {
        Used x = Check.reads(text);
        Check.due("tell(0) of " + text, want.length(), x.tell(0));
        Check.due("told of " + text, want, Check.told(x, 0));
        Used y = Check.reads(want);
        Check.due("what reads as " + text, Check.all(x), Check.all(y));
        Check.due("told of " + want, want, Check.told(y, 0));
    }

    private static void goal(String goal, String want) {
        told("p :- " + goal + ".", "p :- " + want + ".");
    }

    /** The three texts that the document itself has. */
    private static void theDocumentsOwn() {
        String[] texts = {":- type t ---> a ; b(t, int).", ":- mode p(in, out) is det.",
            "p(X, a(-1)) :- q(X), not r ; X = 1 -> true ; fail."};
        for (String text : texts) {
            told(text, text);
            told(text.replace(", ", ",").replace(" ; ", ";").replace(" ---> ", "--->").replace(" = ", "="), text);
            told(text.replace("(", " ( ").replace(")", "\n)\t").replace(",", " , ").replace(".", " ."), text);
        }
    }

    /** "A list in ( ) with a comma and a blank between, behind its NAME at once": none without it. */
    private static void lists() {
        for (int n = 0; n <= 3; n++) {
            String tight = n == 0 ? "" : " ( a" + ",a".repeat(n - 1) + ")";
            String want = n == 0 ? "" : "(a" + ", a".repeat(n - 1) + ")";
            told(":- type t ---> b" + tight + ".", ":- type t ---> b" + want + ".");
            told(":- type t ---> c;b" + tight + ";c.", ":- type t ---> c ; b" + want + " ; c.");
            told(":- pred p" + tight + ".", ":- pred p" + want + ".");
            told(":- mode p" + tight.replace("a", "in") + " is det.", ":- mode p" + want.replace("a",
                    "in") + " is det.");
            told(":- mode p" + tight.replace("a", "out") + " is nondet.", ":- mode p" + want.replace("a",
                    "out") + " is nondet.");
            told("p" + tight + ".", "p" + want + ".");
            told("p" + tight + ":-q.", "p" + want + " :- q.");
            goal("q" + tight, "q" + want);
            goal("X=f" + tight, "X = f" + want);
            goal("f" + tight + "<f" + tight + "+f" + tight, "f" + want + " < f" + want + " + f" + want);
            told("p(f" + tight + ",f" + tight + ").", "p(f" + want + ", f" + want + ").");
        }
    }

    /** "other WORDS with a blank between, but none ahead of , and ." */
    private static void blanks() {
        told(":-type t--->a;b;c.", ":- type t ---> a ; b ; c.");
        told(":-pred p.", ":- pred p.");
        String[] ways = {"det", "semidet", "multi", "nondet"};
        for (String way : ways) {
            told(":-mode p is " + way + ".", ":- mode p is " + way + ".");
            told(":-mode p(in,out)is " + way + ".", ":- mode p(in, out) is " + way + ".");
        }
        told("p .", "p.");
        told("p:-q.", "p :- q.");
        goal("a,b", "a, b");
        goal("a , b ,c", "a, b, c");
        goal("a;b", "a ; b");
        goal("a->b;c", "a -> b ; c");
        goal("not a", "not a");
        goal("not\n not\ta", "not not a");
        goal("true,fail", "true, fail");
        String[] signs = {"=", "\\=", "<", "=<", ">", ">=", "=:=", "=\\="};
        for (String sign : signs) {
            goal("X" + sign + "1", "X " + sign + " 1");
            goal("-1" + sign + "-1", "-1 " + sign + " -1");
        }
        String[] operators = {"+", "-", "*", "//", " mod "};
        for (String operator : operators) {
            String spaced = " " + operator.trim() + " ";
            goal("X is 1" + operator + "2", "X is 1" + spaced + "2");
            goal("X is 1" + operator + "-2", "X is 1" + spaced + "-2");
        }
    }

    /** "ANONYMOUS as _" */
    private static void anonymous() {
        told("p(_,_).", "p(_, _).");
        told("p(__,_a,_).", "p(__, _a, _).");
        goal("_ is _+_", "_ is _ + _");
        goal("_=f(_)", "_ = f(_)");
    }

    /** "numbers in decimal, without zeros in front" */
    private static void numbers() {
        String[][] numbers = {{"0", "0"}, {"00", "0"}, {"-0", "0"}, {"- 00", "0"}, {"1", "1"}, {"01", "1"}, {"-01",
            "-1"}, {"- 1", "-1"}, {"9", "9"}, {"10", "10"}, {"010", "10"}, {"99", "99"}, {"100", "100"}, {"101", "101"},
            {"-100", "-100"}, {"999999999", "999999999"}, {"1000000000", "1000000000"}, {"-1000000000", "-1000000000"},
            {"1000000001", "1000000001"}, {"2147483647", "2147483647"}, {"0002147483647", "2147483647"}, {"-2147483647",
            "-2147483647"}, {"-2147483648", "-2147483648"}, {"- 002147483648", "-2147483648"}, {"2147483640",
            "2147483640"}, {"0".repeat(500), "0"}, {"0".repeat(500) + "7", "7"}};
        for (String[] number : numbers) {
            told("p(" + number[0] + ").", "p(" + number[1] + ").");
            goal("X is 1-" + number[0], "X is 1 - " + number[1]);
        }
        for (int digits = 1; digits <= 10; digits++) {
            String number = "1234567890".substring(0, digits);
            told("p(" + number + ",-" + number + ").", "p(" + number + ", -" + number + ").");
        }
    }

    /** NAMES and VARIABLES of 1 to 16 bytes are told as they are. */
    private static void names() {
        String letters = "bcdefghijk_0123";
        for (int n = 0; n <= 15; n++) {
            String rest = letters.substring(0, n);
            told("a" + rest + "(X" + rest + ",a" + rest + ",_1).", "a" + rest + "(X" + rest + ", a" + rest + ", _1).");
            told(":-type a" + rest + "--->b" + rest + "(a" + rest + ").", ":- type a" + rest + " ---> b" + rest + "(a"
                    + rest + ").");
        }
    }

    private static final String[] OPERATORS = {"+", "-", "*", "//", "mod"};

    private static boolean bindsMore(int operator) {
        return operator >= 2;
    }

    /** "SUMS: a side in ( ) if it binds less, or, as the right one, as much." */
    private static void sidesOfSums() {
        for (int outer = 0; outer < 5; outer++) {
            for (int inner = 0; inner < 5; inner++) {
                String side = "1 " + OPERATORS[inner] + " 2";
                boolean less = bindsMore(outer) && !bindsMore(inner);
                boolean asMuch = bindsMore(outer) == bindsMore(inner);
                String left = less ? "(" + side + ")" : side;
                String right = less || asMuch ? "(" + side + ")" : side;
                String between = " " + OPERATORS[outer] + " ";
                String[] ahead = {"X is ", "X < ", "X =\\= "};
                for (String text : ahead) {
                    goal(text + "(" + side + ")" + between + "3", text + left + between + "3");
                    goal(text + "3" + between + "(" + side + ")", text + "3" + between + right);
                    goal(text + "(" + side + ")" + between + "(" + side + ")", text + left + between + right);
                }
                goal("3" + between + "(" + side + ") < X", "3" + between + right + " < X");
            }
        }
        goal("X is (1)+(Y)", "X is 1 + Y");
        goal("X is (a(1))*(-2)", "X is a(1) * -2");
        goal("X is (1 + 2)", "X is 1 + 2");
        goal("X < (1 + 2)", "X < 1 + 2");
        goal("1 < ((2))", "1 < 2");
    }

    private static void sidesWithinSides() {
        goal("X is 1-(2-(3-4))", "X is 1 - (2 - (3 - 4))");
        goal("X is ((1-2)-3)-4", "X is 1 - 2 - 3 - 4");
        goal("X is (1-(2-3))-4", "X is 1 - (2 - 3) - 4");
        goal("X is ((1+2)*3)+4", "X is (1 + 2) * 3 + 4");
        goal("X is 1+(2*(3+4))", "X is 1 + 2 * (3 + 4)");
        goal("X is 1*(2*(3*4))", "X is 1 * (2 * (3 * 4))");
        goal("X is 0" + "+1".repeat(40), "X is 0" + " + 1".repeat(40));
        goal("X is 0" + "+(1".repeat(20) + ")".repeat(20), "X is 0" + " + (1".repeat(19) + " + 1" + ")".repeat(19));
    }

    private static final String[] INNER = {"a", "true", "X = 1", "not a", "a, b", "a ; b", "a -> b ; c"};
    private static final int ROW = 4;
    private static final int CHOICE = 5;
    private static final int TEST = 6;

    /** "In ( ) stand a ROW, CHOICE or TEST that is a part of a ROW or of not" */
    private static void partsOfRowsAndNot() {
        for (int sort = 0; sort < INNER.length; sort++) {
            String bare = INNER[sort];
            String want = sort >= ROW ? "(" + bare + ")" : bare;
            goal("(" + bare + "), y", want + ", y");
            goal("x, (" + bare + ")", "x, " + want);
            goal("x, (" + bare + "), y", "x, " + want + ", y");
            goal("not (" + bare + ")", "not " + want);
            goal("not not ((" + bare + "))", "not not " + want);
            goal("(" + bare + ")", bare);
        }
    }

    /** "a CHOICE or TEST that is a part of a CHOICE, but a TEST as its last one" */
    private static void partsOfChoices() {
        for (int sort = 0; sort < INNER.length; sort++) {
            String bare = INNER[sort];
            String inside = sort >= CHOICE ? "(" + bare + ")" : bare;
            String last = sort == CHOICE ? "(" + bare + ")" : bare;
            goal("(" + bare + ") ; y", inside + " ; y");
            goal("x ; (" + bare + ") ; y", "x ; " + inside + " ; y");
            goal("x ; (" + bare + ")", "x ; " + last);
            goal("x ; y ; (" + bare + ")", "x ; y ; " + last);
            goal("(" + bare + ") ; (" + bare + ")", inside + " ; " + last);
        }
        goal("x ; a -> b ; c ; d", "x ; a -> b ; c ; d");
        goal("x ; (a -> b ; c) ; d", "x ; (a -> b ; c) ; d");
    }

    /** "a CHOICE or TEST that is the first or second part of a TEST": the last one never. */
    private static void partsOfTests() {
        for (int sort = 0; sort < INNER.length; sort++) {
            String bare = INNER[sort];
            String inside = sort >= CHOICE ? "(" + bare + ")" : bare;
            goal("(" + bare + ") -> y ; z", inside + " -> y ; z");
            goal("x -> (" + bare + ") ; z", "x -> " + inside + " ; z");
            goal("x -> y ; (" + bare + ")", "x -> y ; " + bare);
            goal("(" + bare + ") -> (" + bare + ") ; (" + bare + ")", inside + " -> " + inside + " ; " + bare);
        }
        goal("x -> y ; ((a ; b) ; c)", "x -> y ; (a ; b) ; c");
        goal("a -> b ; ".repeat(20) + "c", "a -> b ; ".repeat(20) + "c");
        goal("a -> b ; (".repeat(20) + "c" + ")".repeat(20), "a -> b ; ".repeat(20) + "c");
    }

    /** As many bytes as a TEXT of 3000 can be told with. */
    private static void longest() {
        String text = ":-pred p(" + "a,".repeat(1494) + "a).";
        Used x = Check.reads(text);
        String want = ":- pred p(" + "a, ".repeat(1494) + "a).";
        Check.due("tell(0) of many names", want.length(), x.tell(0));
        Check.due("told of many names", want, Check.told(x, 0));
        text = ":-type t--->" + "a;".repeat(1492) + "a.";
        x = Check.reads(text);
        want = ":- type t ---> " + "a ; ".repeat(1492) + "a.";
        Check.due("tell(0) of many constructors", want.length(), x.tell(0));
        Check.due("told of many constructors", want, Check.told(x, 0));
        text = "p:-" + "X<1;".repeat(299) + "aaa.";
        x = Check.reads(text);
        want = "p :- " + "X < 1 ; ".repeat(299) + "aaa.";
        Check.due("told of many goals", want, Check.told(x, 0));
    }
}
