/** The edges of faults 5 and 6, each just within and just beyond. */
public final class LimitTest {
    public static void main(String[] args) {
        brackets();
        lists();
        nots();
        mixedBrackets();
        tests();
        testsAndBrackets();
        items();
        names();
        nodes();
        sums();
        lesserNumberFirst();
        deepest();
        Check.finish();
    }

    private static String times(String text, int n) {
        return text.repeat(n);
    }

    private static void brackets() {
        Check.reads("p :- " + times("(", 20) + "a" + times(")", 20) + ".");
        Check.faultyAt("p :- " + times("(", 20) + "@(a" + times(")", 21) + ".", 5);
        Check.reads("p :- X is " + times("(", 20) + "1" + times(")", 20) + ".");
        Check.faultyAt("p :- X is " + times("(", 20) + "@(1" + times(")", 21) + ".", 5);
        Check.faultyAt("p :- 1 + " + times("(", 20) + "@(1", 5);
        // Beside others is not within them.
        Check.reads("p :- " + times("(a), ", 30) + "a.");
        Check.reads("p :- X is 1" + times(" + (2)", 30) + ".");
        Check.reads("p :- " + times("(", 20) + "a" + times(")", 20) + ", " + times("(", 20) + "a" + times(")", 20) + ".");
    }

    private static void lists() {
        Check.reads("p" + times("(a", 20) + times(")", 20) + ".");
        Check.faultyAt("p" + times("(a", 20) + "@(a" + times(")", 21) + ".", 5);
        Check.reads("p :- q" + times("(a", 20) + times(")", 20) + ".");
        Check.faultyAt("p :- q" + times("(a", 20) + "@(a" + times(")", 21) + ".", 5);
        Check.faultyAt("p :- X = q" + times("(a", 20) + "@(a" + times(")", 21) + ".", 5);
        Check.faultyAt("p :- X < q" + times("(a", 20) + "@(a" + times(")", 21) + ".", 5);
        Check.reads("p(" + times("f(a), ", 30) + "a).");
    }

    private static void nots() {
        Check.reads("p :- " + times("not ", 20) + "a.");
        Check.faultyAt("p :- " + times("not ", 20) + "@not a.", 5);
        Check.faultyAt("p :- " + times("not ", 20) + "@(a).", 5);
        Check.faultyAt("p :- " + times("not ", 20) + "a@(b).", 5);
        Check.reads("p :- " + times("not ", 20) + "a, not b, (c).");
        Check.reads("p :- " + times("not ", 19) + "a(b), " + times("not ", 20) + "X = Y.");
        Check.faultyAt("p :- " + times("not ", 20) + "X is @(1).", 5);
        Check.faultyAt("p :- " + times("not ", 20) + "X = f@(1).", 5);
    }

    private static void mixedBrackets() {
        Check.reads("p :- " + times("not (", 10) + "a" + times(")", 10) + ".");
        Check.faultyAt("p :- " + times("not (", 10) + "@not a" + times(")", 10) + ".", 5);
        Check.faultyAt("p :- " + times("not (", 10) + "@(a)" + times(")", 10) + ".", 5);
        Check.faultyAt("p :- " + times("not (", 10) + "a@(b)" + times(")", 10) + ".", 5);
        Check.reads("p :- " + times("not (", 9) + "X is (f(1))" + times(")", 9) + ".");
        Check.faultyAt("p :- " + times("not (", 9) + "X is (f(g@(1)))" + times(")", 9) + ".", 5);
        // A not ends with its SINGLE, a ( with its ).
        Check.reads("p :- " + times("(", 19) + "not a, (b), c(d)" + times(")", 19) + ".");
    }

    private static void tests() {
        Check.reads("p :- " + times("a -> b ; ", 20) + "c.");
        Check.faultyAt("p :- " + times("a -> b ; ", 20) + "c @-> d ; e.", 5);
        Check.faultyAt("p :- " + times("a -> b ; ", 20) + "c ; d @-> d ; e.", 5);
        Check.reads("p :- " + times("a -> b ; ", 20) + "c ; d ; e.");
        Check.faultyAt("p :- " + times("a ; b -> c ; ", 20) + "c, d @-> d ; e.", 5);
        // First and second parts are not the last part.
        Check.reads("p :- " + times("(", 19) + "a -> b ; c" + times(") -> b ; c", 19) + ".");
        Check.reads("p :- " + times("a -> (", 20) + "a -> b ; c" + times(") ; c", 20) + ".");
        Check.reads("p :- " + times("a -> (x -> y ; z) ; ", 20) + "c.");
        Check.reads("p :- " + times("(x -> y ; z), a -> b ; ", 20) + "c.");
        Check.faultyAt("p :- " + times("a -> b ; ", 20) + "(x @-> y ; z).", 5);
        Check.reads("p :- (" + times("a -> b ; ", 20) + "c), (" + times("a -> b ; ", 20) + "c).");
    }

    private static void testsAndBrackets() {
        // Within the last part, in ( ) too.
        Check.reads("p :- " + times("a -> b ; (", 19) + "a -> b ; c" + times(")", 19) + ".");
        Check.reads("p :- " + times("a -> b ; (", 20) + "c" + times(")", 20) + ".");
        Check.faultyAt("p :- " + times("a -> b ; (", 20) + "c @-> d ; e" + times(")", 20) + ".", 5);
        Check.faultyAt("p :- " + times("a -> b ; ", 19) + "(a -> b ; not (c @-> d ; e)).", 5);
        // The second part of the 20th stands within the last parts of 19 alone.
        Check.reads("p :- " + times("a -> b ; ", 19) + "a -> (c -> d ; e) ; f.");
        Check.reads("p :- " + times("a -> b ; ", 19) + "(c -> d ; e) -> a ; f.");
        Check.faultyAt("p :- " + times("a -> b ; ", 19) + "a -> (c -> d ; e @-> f ; g) ; h.", 5);
    }

    private static void items() {
        Used x = Check.reads(times("a.", 120));
        Check.due("count(0)", 120, x.count(0));
        Check.due("item(119, 5)", 238, x.item(119, 5));
        Check.due("item(120, 5)", -1, x.item(120, 5));
        Check.reads(times("a.", 120) + " % a.");
        Check.faultyAt(times("a.", 120) + " @a.", 6);
        Check.faultyAt(times("a.", 120) + " @:- pred p.", 6);
        Check.faultyAt(times("a.", 120) + " @:- [", 6);
        Check.faultyAt(times("a.", 120) + " @a", 6);
        Check.faultyAt(times("a.", 120) + " @X.", 4);
        Check.faultyAt(times("a.", 120) + " @abcdefghijklmnopq.", 2);
        x = Check.reads(times(":- pred a.", 120));
        Check.due("count(0) of preds", 120, x.count(0));
    }

    /** n names with commas between. */
    private static String manyNames(int n) {
        StringBuilder out = new StringBuilder("a100");
        for (int i = 1; i < n; i++) {
            out.append(',').append(i % 2 == 0 ? 'a' : 'V').append(100 + i);
        }
        return out.toString();
    }

    private static String manySmallNames(int n) {
        return manyNames(n).replace('V', 'v');
    }

    private static void names() {
        Used x = Check.reads("p(" + manyNames(149) + ").");
        Check.due("count(2)", 150, x.count(2));
        Check.due("name 149", "a248", Check.name(x, 149));
        Check.due("name 150", "", Check.name(x, 150));
        Check.due("find of name 149", 149, Check.find(x, "a248"));
        Check.reads("p(" + manyNames(149) + ",p,_,a100) :- V101 = p.");
        Check.faultyAt("p(" + manyNames(149) + ",@q).", 6);
        Check.faultyAt("p(" + manyNames(149) + ",@_q).", 6);
        Check.faultyAt("p(" + manyNames(149) + ") :- @q.", 6);
        Check.faultyAt("p(" + manyNames(149) + "). @q.", 6);
        Check.faultyAt("p(" + manyNames(149) + ") @q.", 4);
        Check.faultyAt(":- pred p(" + manySmallNames(149) + ",@q).", 6);
        Check.faultyAt(":- pred p(" + manySmallNames(149) + "). :- type @q ---> p.", 6);
        Check.faultyAt(":- pred p(" + manySmallNames(149) + "). :- type p ---> p ; @q.", 6);
        Check.faultyAt(":- pred p(" + manySmallNames(149) + "). :- type p ---> p(@q).", 6);
        Check.faultyAt(":- pred p(" + manySmallNames(149) + "). :- mode @q is det.", 6);
        Check.reads(":- pred p(" + manySmallNames(149) + "). :- mode p(in, out) is det. :- mode p is multi. p :- true.");
        Check.faultyAt(":- pred p(" + manySmallNames(149) + "). p :- @det.", 6);
    }

    private static void nodes() {
        String full = "p(" + times("a,", 1199) + "a)";
        Used x = Check.reads(full + ".");
        Check.due("count(1)", 1200, x.count(1));
        Check.due("item(0, 2)", 1200, x.item(0, 2));
        Check.due("part(0, 1199, 0)", 1199, x.part(0, 1199, 0));
        Check.due("node(1199, 3)", 2400, x.node(1199, 3));
        Check.due("tell(0)", 3 * 1200 + 2, x.tell(0));
        Check.due("letter(3600)", ')', x.letter(3600));
        Check.faultyAt("p(" + times("a,", 1200) + "@a).", 6);
        Check.faultyAt("p(" + times("a,", 1200) + "@X).", 6);
        Check.faultyAt("p(" + times("a,", 1200) + "@7).", 6);
        Check.faultyAt("p(" + times("a,", 1200) + "@-a).", 6);
        Check.faultyAt("p(" + times("a,", 1200) + "@+a).", 4);
        String[] firstWords = {"@q.", "@true.", "@fail.", "@not q.", "(@q).", "@X = 1.", "@1 < 2.", "@-1 < 2."};
        for (String goal : firstWords) {
            Check.faultyAt(full + ":-" + goal, 6);
        }
        nodesAtSigns();
    }

    /** With so many nodes left, the fault is at the sign that makes one more. */
    private static void nodesAtSigns() {
        String[] oneLeft = {"a@,b.", "a@;b.", "a@->b;c.", "X@=1.", "X@\\=1.", "X @is 1.", "X@<1.", "X@=<1.", "X@>1.",
            "X@>=1.", "X@=:=1.", "X@=\\=1.", "X@+1<2.", "X@*1<2.", "X @mod 1<2.", "not @a.", "a(@b).", "true@,b."};
        for (String goal : oneLeft) {
            Check.faultyAt("p(" + times("a,", 1198) + "a):-" + goal, 6);
        }
        Check.faultyAt("p(" + times("a,", 1197) + "a):-a,@b.", 6);
        Used x = Check.reads("p(" + times("a,", 1196) + "a):-a,b.");
        Check.due("count(1) of a row", 1200, x.count(1));
        x = Check.reads("p(" + times("a,", 1195) + "a):-a,b,c.");
        Check.due("count(1) of a row of three", 1200, x.count(1));
        x = Check.reads("p(" + times("a,", 1195) + "a):-a;b;c.");
        Check.due("count(1) of a choice of three", 1200, x.count(1));
        x = Check.reads("p(" + times("a,", 1194) + "a):-((a;b)),(c).");
        Check.due("count(1) with ( )", 1200, x.count(1));
    }

    private static void sums() {
        Check.reads("p :- X is 0" + times("+1", 40) + ".");
        Check.faultyAt("p :- X is 0" + times("+1", 40) + "@+1.", 6);
        Check.faultyAt("p :- X is 0" + times("+1", 40) + "@*1.", 6);
        Check.faultyAt("p :- X is 0" + times("*1", 40) + " @mod 1.", 6);
        Check.faultyAt("p :- 0" + times("-1", 40) + "@- 1 < 2.", 6);
        Check.faultyAt("p :- 0" + times("-1", 20) + " < 0" + times("+1", 20) + "@//2.", 6);
        Check.reads("p :- 0" + times("-1", 20) + " < 0" + times("+1", 20) + ".");
        Check.reads("p :- 0" + times("-1", 40) + " < 0.");
        Check.faultyAt("p :- X is (0" + times("+1", 30) + ")*(1" + times("-1", 9) + "@-1).", 6);
        Check.reads("p :- X is 0" + times("+1", 40) + ", Y is 0" + times("+1", 40) + ".");
        Check.reads("p :- X is 0" + times("+1", 40) + " ; not 0" + times("+1", 40) + " < 1.");
        Check.reads("p :- (X is 0" + times("+1", 40) + ", Y is 0" + times("+1", 40) + ").");
        Check.reads("p :- not (X is 0" + times("+1", 40) + " -> Y is 0" + times("+1", 40) + " ; 1" + times("*1", 40) + " > 2).");
        Used x = Check.reads("p :- X is 0" + times("+(1", 20) + times(")", 20) + times("-1", 20) + ".");
        Check.due("count(1)", 1 + 1 + 41 + 40, x.count(1));
    }

    private static void lesserNumberFirst() {
        // What is too deep and has no room is too deep.
        String full = "p(" + times("a,", 1179) + "a) :- ";
        Check.faultyAt(full + times("not ", 20) + "@not a.", 5);
        Check.faultyAt("p(" + times("a,", 1178) + "a) :- " + times("not ", 20) + "a@(b).", 5);
        Check.faultyAt("p(" + times("a,", 1118) + "a) :- " + times("a->b;", 20) + "c@->d;e.", 5);
        // What can't stand there is that, however deep.
        Check.faultyAt("p :- " + times("(", 20) + "a @a(", 4);
        Check.faultyAt("p :- " + times("(", 20) + "X@(", 4);
        Check.faultyAt("p :- " + times("(", 20) + "a, X @not a.", 4);
        Check.faultyAt("p :- " + times("a -> b ; ", 20) + "X @-> d ; e.", 4);
        Check.faultyAt("p :- X is 0" + times("+1", 40) + " @< 1.", 4);
    }

    private static void deepest() {
        // Through second parts, then through last parts, then through sums, as deep as it goes.
        String goal = times("a ; b -> c ; ", 20) + "d, 0" + times("+1", 40) + " < 2";
        String text = "p :- " + times("a;b->c,(", 20) + goal + times(");d", 20) + ".";
        Used x = Check.reads(text);
        int length = x.tell(0);
        StringBuilder told = new StringBuilder();
        for (int i = 0; i < length; i++) {
            told.append((char) x.letter(i));
        }
        Check.due("blanks aside, what is told", text.replace(" ", ""), told.toString().replace(" ", ""));
    }
}
