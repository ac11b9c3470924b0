/**
 * "4 a WORD that can't stand there": behind each beginning every WORD is tried, and it is the fault unless
 * it can stand there.
 */
public final class FollowTest {
    private static final String[] WORDS = {"a", "X", "_", "1", "(", ")", ",", ".", ";", "=", "+", "-", "*", "//", ":-",
        "->", "--->", "\\=", "<", "=<", ">", ">=", "=:=", "=\\=", "not", "true", "fail", "is", "mod"};

    private static final String TERM = " a X _ 1 - ";
    private static final String SUM = TERM + "( ";
    private static final String SINGLE = SUM + "not true fail ";
    private static final String OPERATOR = " + - * // mod ";
    private static final String COMPARED = " < =< > >= =:= =\\= ";
    private static final String BEHIND_TERM = OPERATOR + COMPARED + "= \\= ";
    private static final String BEHIND_SINGLE = " , . ; -> ";
    private static final String BEHIND_INNER_SINGLE = " , ) ; -> ";
    private static final String BEHIND_SECOND_PART = " , ; ";

    public static void main(String[] args) {
        declarations();
        heads();
        goals();
        equations();
        sums();
        comparisons();
        choices();
        tests();
        Check.finish();
    }

    /** Behind a beginning just these WORDS can stand. */
    private static void behind(String beginning, String... can) {
        String known = " " + String.join(" ", can) + " ";
        for (String word : WORDS) {
            tryWord(beginning, word, known.contains(" " + word + " "));
        }
    }

    /** Behind a WORD that can stand the text's end is the only fault that there may be. */
    private static void tryWord(String beginning, String word, boolean can) {
        String text = beginning + " " + word + " ";
        Used x = new Used();
        int answer = Check.read(x, text);
        if (can && word.equals(".")) {
            Check.due("fault(0) of " + text, 0, x.fault(0));
            Check.due("read() of " + text, x.count(0), answer);
            return;
        }
        Check.due("read() of " + text, Check.THROWN, answer);
        Check.due("fault(0) of " + text, 4, x.fault(0));
        Check.due("fault(1) of " + text, can ? text.length() : beginning.length() + 1, x.fault(1));
    }

    private static void declarations() {
        behind("", "a", ":-");
        behind("a.", "a", ":-");
        behind(":-");
        behind(":- type", "a");
        behind(":- type a", "--->");
        behind(":- type a --->", "a");
        behind(":- type a ---> a", "(", ";", ".");
        behind(":- type a ---> a(", "a");
        behind(":- type a ---> a(a", ",", ")");
        behind(":- type a ---> a(a,", "a");
        behind(":- type a ---> a(a)", ";", ".");
        behind(":- type a ---> a ;", "a");
        behind(":- type a ---> a ; a", "(", ";", ".");
        behind(":- pred", "a");
        behind(":- pred a", "(", ".");
        behind(":- pred a(", "a");
        behind(":- pred a(a", ",", ")");
        behind(":- pred a(a,", "a");
        behind(":- pred a(a)", ".");
        behind(":- mode", "a");
        behind(":- mode a", "(", "is");
        behind(":- mode a(");
        behind(":- mode a(in", ",", ")");
        behind(":- mode a(out", ",", ")");
        behind(":- mode a(in,");
        behind(":- mode a(in)", "is");
        behind(":- mode a is");
        behind(":- mode a is det", ".");
        behind(":- mode a(in) is semidet", ".");
    }

    private static void heads() {
        behind("a", "(", ".", ":-");
        behind("a(", TERM);
        behind("a(a", "(", ",", ")");
        behind("a(X", ",", ")");
        behind("a(_", ",", ")");
        behind("a(1", ",", ")");
        behind("a(-", "1");
        behind("a(-1", ",", ")");
        behind("a(a,", TERM);
        behind("a(a)", ".", ":-");
        behind("a(a(", TERM);
        behind("a(a(a", "(", ",", ")");
        behind("a(a(a)", ",", ")");
    }

    private static void goals() {
        behind("a :-", SINGLE);
        behind("a(1) :-", SINGLE);
        behind("a :- a", BEHIND_SINGLE, BEHIND_TERM, "(");
        behind("a :- a(", TERM);
        behind("a :- a(a", "(", ",", ")");
        behind("a :- a(1", ",", ")");
        behind("a :- a(a)", BEHIND_SINGLE, BEHIND_TERM);
        behind("a :- true", BEHIND_SINGLE);
        behind("a :- fail", BEHIND_SINGLE);
        behind("a :- not", SINGLE);
        behind("a :- not not", SINGLE);
        behind("a :- not a", BEHIND_SINGLE, BEHIND_TERM, "(");
        behind("a :- not true", BEHIND_SINGLE);
        behind("a :- not (a)", BEHIND_SINGLE);
        behind("a :- (", SINGLE);
        behind("a :- (a", BEHIND_INNER_SINGLE, BEHIND_TERM, "(");
        behind("a :- (true", BEHIND_INNER_SINGLE);
        behind("a :- (a)", BEHIND_SINGLE);
        behind("a :- ((a)", BEHIND_INNER_SINGLE);
        behind("a :- a,", SINGLE);
        behind("a :- a, true", BEHIND_SINGLE);
        behind("a :- (a, true", BEHIND_INNER_SINGLE);
    }

    private static void equations() {
        behind("a :- X", BEHIND_TERM, "is");
        behind("a :- _", BEHIND_TERM, "is");
        behind("a :- 1", BEHIND_TERM);
        behind("a :- -", "1");
        behind("a :- -1", BEHIND_TERM);
        behind("a :- (X", BEHIND_TERM, "is");
        behind("a :- (1", BEHIND_TERM);
        behind("a :- not X", BEHIND_TERM, "is");
        behind("a :- X =", TERM);
        behind("a :- X \\=", TERM);
        behind("a :- X = a", BEHIND_SINGLE, "(");
        behind("a :- X = 1", BEHIND_SINGLE);
        behind("a :- X = X", BEHIND_SINGLE);
        behind("a :- X = a(a", "(", ",", ")");
        behind("a :- X \\= a(a)", BEHIND_SINGLE);
        behind("a :- (X = 1", BEHIND_INNER_SINGLE);
    }

    private static void sums() {
        behind("a :- X +", SUM);
        behind("a :- X + -", "1");
        behind("a :- X + 1", OPERATOR, COMPARED);
        behind("a :- X + a", OPERATOR, COMPARED, "(");
        behind("a :- X + (", SUM);
        behind("a :- X + (1", OPERATOR, ")");
        behind("a :- X + (1)", OPERATOR, COMPARED);
        behind("a :- X * 1 mod", SUM);
        behind("a :- (X + 1", OPERATOR, COMPARED);
        behind("a :- X is", SUM);
        behind("a :- X is 1", BEHIND_SINGLE, OPERATOR);
        behind("a :- X is a", BEHIND_SINGLE, OPERATOR, "(");
        behind("a :- X is 1 + 1", BEHIND_SINGLE, OPERATOR);
        behind("a :- X is 1 //", SUM);
        behind("a :- X is (", SUM);
        behind("a :- X is ((", SUM);
        behind("a :- X is (1", OPERATOR, ")");
        behind("a :- X is (1)", BEHIND_SINGLE, OPERATOR);
        behind("a :- X is ((1)", OPERATOR, ")");
        behind("a :- (X is 1", BEHIND_INNER_SINGLE, OPERATOR);
    }

    private static void comparisons() {
        for (String sign : COMPARED.trim().split(" ")) {
            behind("a :- X " + sign, SUM);
            behind("a :- X " + sign + " 1", BEHIND_SINGLE, OPERATOR);
            behind("a :- X + 1 " + sign + " (1)", BEHIND_SINGLE, OPERATOR);
            behind("a :- (X " + sign + " 1", BEHIND_INNER_SINGLE, OPERATOR);
        }
    }

    private static void choices() {
        behind("a :- a ;", SINGLE);
        behind("a :- a ; true", BEHIND_SINGLE);
        behind("a :- a ; true ;", SINGLE);
        behind("a :- a ; true ; true", BEHIND_SINGLE);
        behind("a :- (a ; true", BEHIND_INNER_SINGLE);
    }

    private static void tests() {
        behind("a :- a ->", SINGLE);
        behind("a :- a -> a", BEHIND_SECOND_PART, BEHIND_TERM, "(");
        behind("a :- a -> true", BEHIND_SECOND_PART);
        behind("a :- a -> true,", SINGLE);
        behind("a :- a -> true, true", BEHIND_SECOND_PART);
        behind("a :- a -> (true", BEHIND_INNER_SINGLE);
        behind("a :- a -> true ;", SINGLE);
        behind("a :- a -> true ; true", BEHIND_SINGLE);
        behind("a :- a -> true ; true ; true", BEHIND_SINGLE);
        behind("a :- a -> true ; a -> true", BEHIND_SECOND_PART);
        behind("a :- (a -> true", BEHIND_SECOND_PART);
        behind("a :- (a -> true ; true", BEHIND_INNER_SINGLE);
        behind("a :- a ; a -> true", BEHIND_SECOND_PART);
        behind("a :- a ; a -> true ; true", BEHIND_SINGLE);
    }
}
