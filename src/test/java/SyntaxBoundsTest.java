/**
 * The boundary cases of the document's sentences on ITEMS, TERMS, SUMS, GOALS, NODES and names' numbers.
 * Each method has the sentence that it tests above it. An @ marks the place of a fault and is no part of
 * the text.
 */
public final class SyntaxBoundsTest {
    private static final String[] WAYS = {"det", "semidet", "multi", "nondet"};

    public static void main(String[] args) {
        endedItems();
        constructors();
        listsOfNames();
        modes();
        smallLetters();
        clauses();
        terms();
        bindings();
        minus();
        choicesAndTests();
        rows();
        singles();
        singlesInBrackets();
        anyVariableIs();
        bracketsMakeNoNode();
        choicesInARow();
        numberedNodes();
        numberedNames();
        unnumberedNames();
        Check.finish();
    }

    private static void allMisplaced(String... marked) {
        for (String text : marked) {
            Check.faultyAt(text, 4);
        }
    }

    private static String shape(String goal) {
        Used x = Check.reads("p :- " + goal + ".");
        return Check.shape(x, x.item(0, 4));
    }

    private static void shape(String goal, String want) {
        Check.due("the shape of " + goal, want, shape(goal));
    }

    /** "ITEMS, each ended by ." */
    private static void endedItems() {
        String[] items = {":- type t ---> a", ":- type t ---> a(b)", ":- pred p", ":- pred p(a)", ":- mode p is det",
            ":- mode p(in) is det", "p", "p(a)", "p :- q", "p :- q(a)", "p :- true", "p :- X = 1", "p :- X is 1",
            "p :- (q)"};
        for (String item : items) {
            Check.due("items of " + item, 1, Check.reads(item + ".").count(0));
            Check.due("items of " + item + ", twice", 2, Check.reads(item + "." + item + ".").count(0));
            Check.faultyAt(item + "@", 4);
            Check.faultyAt(item + " \n % .\n @", 4);
            Check.faultyAt(item + " @---> q.", 4);
            Check.faultyAt(item + ".@.", 4);
        }
        Check.due("items of no text", 0, Check.reads("").count(0));
    }

    /** ":- type NAME ---> a CONSTRUCTOR, perhaps more with ; between": one at least. */
    private static void constructors() {
        allMisplaced(":- type t@.", ":- type t --->@.", ":- type t ---> @;a.", ":- type t ---> a;@.",
                ":- type t ---> a;@;b.", ":- type t ---> a@,b.", ":- type t ---> a @b.", ":- type t@(a) ---> b.",
                ":- type @---> a.", ":- @t ---> a.");
        for (int n = 1; n <= 5; n++) {
            Used x = Check.reads(":- type t ---> a" + ";a".repeat(n - 1) + ".");
            Check.due("item(0, 2) of " + n, n, x.item(0, 2));
            Check.due("the last of " + n, 1, x.part(0, n - 1, 0));
            Check.due("one more than " + n, -1, x.part(0, n, 0));
        }
        // As many as a TEXT can have.
        Used x = Check.reads(":-type t--->" + "a;".repeat(1491) + "a(b).");
        Check.due("item(0, 2) of most", 1492, x.item(0, 2));
        Check.due("part(0, 1490, 1) of most", 0, x.part(0, 1490, 1));
        Check.due("part(0, 1491, 1) of most", 1, x.part(0, 1491, 1));
        Check.due("part(0, 1491, 2) of most", 2, x.part(0, 1491, 2));
        Check.due("part(0, 1492, 0) of most", -1, x.part(0, 1492, 0));
    }

    /** "a NAME, perhaps ( NAMES with , between )": of a CONSTRUCTOR and of a pred; no list is empty. */
    private static void listsOfNames() {
        String[] ahead = {":- type t ---> a", ":- type t ---> c ; a", ":- pred a"};
        for (String text : ahead) {
            allMisplaced(text + "(@).", text + "(@,b).", text + "(b,@).", text + "(b,@,b).", text + "(b @b).",
                    text + "(b@;b).", text + "(b@(c)).", text + "(@(b)).", text + "(@X).", text + "(@_).",
                    text + "(@1).", text + "(@-1).", text + "(b)@(b).", text + "(b@.", text + "(@.", text + "(b@");
        }
        for (int n = 0; n <= 4; n++) {
            String list = n == 0 ? "" : "(b" + ",c".repeat(n - 1) + ")";
            Used x = Check.reads(":- type t ---> d ; a" + list + ". :- pred a" + list + ".");
            Check.due("part(0, 1, 1) of " + n, n, x.part(0, 1, 1));
            Check.due("item(1, 2) of " + n, n, x.item(1, 2));
            for (int i = 0; i <= n; i++) {
                int want = i == n ? -1 : i == 0 ? 3 : 4;
                Check.due("part(0, 1, 2 + " + i + ") of " + n, want, x.part(0, 1, 2 + i));
                Check.due("part(1, " + i + ", 0) of " + n, want, x.part(1, i, 0));
            }
        }
        Used x = Check.reads(":-type t--->a(" + "b,".repeat(1490) + "c).");
        Check.due("part(0, 0, 1) of most", 1491, x.part(0, 0, 1));
        Check.due("part(0, 0, 1491) of most", 2, x.part(0, 0, 1491));
        Check.due("part(0, 0, 1492) of most", 3, x.part(0, 0, 1492));
        Check.due("part(0, 0, 1493) of most", -1, x.part(0, 0, 1493));
    }

    /** ":- mode NAME, perhaps ( in or out, with , between ), is, and one of det, semidet, multi, nondet." */
    private static void modes() {
        for (int way = 0; way < 4; way++) {
            for (int n = 0; n <= 3; n++) {
                String list = n == 0 ? "" : "(out" + ",in".repeat(n - 1) + ")";
                Used x = Check.reads(":- mode m" + list + " is " + WAYS[way] + ".");
                Check.due("item(0, 0)", 2, x.item(0, 0));
                Check.due("item(0, 2) of " + n, n, x.item(0, 2));
                Check.due("item(0, 3) of " + WAYS[way], way, x.item(0, 3));
                Check.due("part(0, 0, 0) of " + n, n == 0 ? -1 : 1, x.part(0, 0, 0));
                Check.due("part(0, 1, 0) of " + n, n < 2 ? -1 : 0, x.part(0, 1, 0));
                Check.due("part(0, n, 0) of " + n, -1, x.part(0, n, 0));
                Check.due("count(2)", 1, x.count(2));
            }
            String word = WAYS[way];
            String shorter = word.substring(0, word.length() - 1);
            allMisplaced(":- mode m is @x" + word + ".", ":- mode m is @" + word + "x.",
                    ":- mode m is @" + word.substring(1) + ".", ":- mode m is @" + shorter + ".",
                    ":- mode m is " + word + "@(in).", ":- mode m @" + word + ".", ":- mode m(in) @" + word + ".",
                    ":- mode m(@" + word + ") is det.");
        }
        allMisplaced(":- mode m(@) is det.", ":- mode m(in,@) is det.", ":- mode m(@,in) is det.",
                ":- mode m(in @in) is det.", ":- mode m(@inn) is det.", ":- mode m(@i) is det.",
                ":- mode m(@ou) is det.", ":- mode m(@outs) is det.", ":- mode m(@X) is det.", ":- mode m(@1) is det.",
                ":- mode m(in@(in)) is det.", ":- mode m(in)@.", ":- mode m@.", ":- mode m is@.", ":- mode m is @in.",
                ":- mode m is @is.", ":- mode m is @1.", ":- mode m is @X.", ":- mode @(in) is det.");
    }

    /** "(What is told here in small letters are NAMES like others elsewhere.)" */
    private static void smallLetters() {
        String[] names = {"type", "pred", "mode", "in", "out", "det", "semidet", "multi", "nondet"};
        for (String name : names) {
            String text = ":- type # ---> # ; #(#, #). :- pred #(#). :- mode #(in) is det. "
                    + "#(#, #(1)) :- #, X = #(#), X is #.";
            Used x = Check.reads(text.replace("#", name));
            Check.due("items of " + name, 4, x.count(0));
            Check.due("names of " + name, 2, x.count(2));
            Check.due("name 0", name, Check.name(x, 0));
            for (int k = 0; k < 4; k++) {
                Check.due("item(" + k + ", 1) of " + name, 0, x.item(k, 1));
            }
            Check.faultyAt(":- mode p is @" + name.toUpperCase() + ".", 4);
        }
        // There they are the very letters.
        allMisplaced(":- @types t ---> a.", ":- @typ t ---> a.", ":- @Type t ---> a.", ":- @preds p.", ":- @pre p.",
                ":- @modes p is det.", ":- @mod p is det.", ":- @in p.", ":- @det.", ":- @p.", ":- @1.", ":- @(p).",
                ":- @.");
    }

    /** "A CLAUSE: NAME, perhaps ( TERMS with , between ), perhaps :- and a GOAL." */
    private static void clauses() {
        for (int n = 0; n <= 4; n++) {
            String list = n == 0 ? "" : "(a" + ",X".repeat(n - 1) + ")";
            Used x = Check.reads("p" + list + ".p" + list + ":-q.");
            Check.due("item(0, 2) of " + n, n, x.item(0, 2));
            Check.due("item(1, 2) of " + n, n, x.item(1, 2));
            Check.due("item(0, 4) of " + n, -1, x.item(0, 4));
            Check.due("item(1, 4) of " + n, 2 * n, x.item(1, 4));
            for (int i = 0; i <= n; i++) {
                Check.due("part(0, " + i + ", 0) of " + n, i == n ? -1 : i, x.part(0, i, 0));
                Check.due("part(1, " + i + ", 0) of " + n, i == n ? -1 : n + i, x.part(1, i, 0));
            }
        }
        allMisplaced("p(@).", "p(@,a).", "p(a,@).", "p(a,@,a).", "p(a @a).", "p(a@;a).", "p(a)@(a).", "p(a@.", "p(@.",
                "p :-@.", "p(a) :-@.", "p :- q @:- r.", "p @-> q.", "p@, q.", "p@; q.", "@P :- q.", "@_ :- q.",
                "@1 :- q.", "@-1.", "@(p) :- q.", "@(", "@).", "@, p.");
    }

    /** "TERMS: a VARIABLE; a NUMBER; - and a NUMBER; NAME, perhaps ( TERMS with , between )." */
    private static void terms() {
        Used x = Check.reads("p(X, _, 1, -1, - 1, a, a(b), a(b, c, X, _, 1, -1, a(b))).");
        int[] sorts = {0, 0, 1, 1, 1, 2, 2, 2};
        int[] sizes = {0, 0, 0, 0, 0, 0, 1, 7};
        for (int i = 0; i < 8; i++) {
            Check.due("the sort of term " + i, sorts[i], x.node(x.part(0, i, 0), 0));
            Check.due("the parts of term " + i, sizes[i], x.node(x.part(0, i, 0), 2));
        }
        String[] around = {"p(#).", "p(a, #).", "p(f(#)).", "p :- q(#).", "p :- X = #.", "p :- X = f(#).",
            "p :- X < f(#)."};
        String[] marked = {"@", "a(@)", "a(@,b)", "a(b,@)", "a(b,@,b)", "a(b @b)", "a(b)@(c)", "X@(a)", "_@(a)",
            "1@(a)", "-1@(a)", "-@a", "-@X", "-@_", "-@-1", "-@(1)", "-@", "@(a)", "@((a))", "@+1", "a @b", "a @1",
            "1 @1", "X @Y", "@= a", "@not a", "a(b@;c)"};
        for (String place : around) {
            for (String text : marked) {
                Check.faultyAt(place.replace("#", text), 4);
            }
        }
        // No SUM is a TERM.
        allMisplaced("p(1@+1).", "p(a@*b).", "p(X@-1).", "p(X @mod 1).", "p(X@//1).", "p :- q(1@+1).", "p :- X = 1@+1.",
                "p :- X \\= a@*b.", "p :- X < f(1@+1).", "p(a@=b).", "p(X @is 1).", "p(X@<1).");
    }

    private static final String[] OPERATORS = {"+", "-", "*", "//", "mod"};

    /**
     * "SUMS, from what binds least, operators of one line from the left: + and -; *, // and mod; a TERM, or ( a
     * SUM )."
     */
    private static void bindings() {
        for (int a = 0; a < 5; a++) {
            shape("X is 1 " + OPERATORS[a] + " 2", "14(0 " + (3 + a) + "(1 1))");
            for (int b = 0; b < 5; b++) {
                int first = 3 + a;
                int second = 3 + b;
                boolean right = a < 2 && b >= 2;
                String fromLeft = second + "(" + first + "(1 0) 2)";
                String fromRight = first + "(1 " + second + "(0 2))";
                String text = "1 " + OPERATORS[a] + " Y " + OPERATORS[b] + " c";
                shape("X is " + text, "14(0 " + (right ? fromRight : fromLeft) + ")");
                shape("X < " + text, "15(0 " + (right ? fromRight : fromLeft) + ")");
                shape(text + " < X", "15(" + (right ? fromRight : fromLeft) + " 0)");
                shape("X is (1 " + OPERATORS[a] + " Y) " + OPERATORS[b] + " c", "14(0 " + fromLeft + ")");
                shape("X is 1 " + OPERATORS[a] + " (Y " + OPERATORS[b] + " c)", "14(0 " + fromRight + ")");
            }
        }
        shape("X is ((1))", "14(0 1)");
        shape("X is (a)", "14(0 2)");
        shape("X is ((1) + ((2)))", "14(0 3(1 1))");
        allMisplaced("p :- X is@.", "p :- X is (@).", "p :- X is 1 +@.", "p :- X is (1 +@).", "p :- X is 1 @1.",
                "p :- X is (1)@(1).", "p :- X is 1@(1).", "p :- X is @* 1.", "p :- X is @+ 1.", "p :- X is @mod 1.",
                "p :- X is 1 + @* 1.", "p :- X is (1@.", "p :- X is 1@).", "p :- X is (1@, 2).");
    }

    /** "(- where a TERM must begin is part of a NUMBER.)": and nowhere else. */
    private static void minus() {
        shape("X is -1", "14(0 1)");
        shape("X is 1 -1", "14(0 4(1 1))");
        shape("X is 1 - -1", "14(0 4(1 1))");
        shape("X is 1--1", "14(0 4(1 1))");
        shape("X is -1-1", "14(0 4(1 1))");
        shape("X is -1 - -1", "14(0 4(1 1))");
        shape("X is 2*-1", "14(0 5(1 1))");
        shape("X is (-1)", "14(0 1)");
        shape("X is Y -1", "14(0 4(0 1))");
        shape("X is a -1", "14(0 4(2 1))");
        shape("X is a(-1) -1", "14(0 4(2(1) 1))");
        shape("X is (1) -1", "14(0 4(1 1))");
        shape("-1 < -1", "15(1 1)");
        shape("-1 -1 < 1", "15(4(1 1) 1)");
        shape("-1 = -1", "12(1 1)");
        Used x = Check.reads("p :- X is 1 -2.");
        Check.due("the value behind an operator", 2, x.node(4, 1));
        x = Check.reads("p :- X is 1 - -2.");
        Check.due("the value of a - that is part of it", -2, x.node(4, 1));
        allMisplaced("p :- X is -@Y.", "p :- X is -@a.", "p :- X is -@(1).", "p :- X is -@-1.", "p :- X is 1 - -@-1.",
                "p :- X is 1 - @.", "p :- X = 1 @-1.", "p(1 @-1).", "p :- a(1 @-1).", "p :- -@X < 1.", "p @-1.");
    }

    /** "GOALS: a ROW; a ROW ; a GOAL; a ROW -> a ROW ; a GOAL." */
    private static void choicesAndTests() {
        shape("a", "21");
        shape("a;b", "24(21 21)");
        shape("a->b;c", "25(21 21 21)");
        shape("a,b->c,d;e,f", "25(23(21 21) 23(21 21) 23(21 21))");
        shape("a->b;c;d", "25(21 21 24(21 21))");
        shape("a->b;c->d;e", "25(21 21 25(21 21 21))");
        shape("a;b->c;d", "24(21 25(21 21 21))");
        shape("a;b;c->d;true", "24(21 21 25(21 21 10))");
        allMisplaced("p :-@.", "p :- a;@.", "p :- @;a.", "p :- a;@;b.", "p :- a->b@.", "p :- a->@;b.", "p :- a->b;@.",
                "p :- @->b;c.", "p :- a->b@->c;d.", "p :- a->b, c@.", "p :- (a->b@).", "p :- a;b->c@.",
                "p :- a->b;c->d@.", "p :- a->@.", "p :- a->@->b;c.");
    }

    /** "A ROW: SINGLES with , between." */
    private static void rows() {
        for (int n = 1; n <= 5; n++) {
            shape("a" + ",b".repeat(n - 1), n == 1 ? "21" : "23(21" + " 21".repeat(n - 1) + ")");
        }
        allMisplaced("p :- @,a.", "p :- a,@.", "p :- a,@,b.", "p :- a @b.", "p :- a,@;b.", "p :- a,@->b;c.",
                "p :- (a,@).", "p :- (@,a).", "p :- a->b,@;c.");
        Used x = Check.reads("p:-" + "a,".repeat(1198) + "a.");
        Check.due("the parts of the longest row", 1199, x.node(0, 2));
        Check.due("its last part", 1199, x.node(0, 4 + 1198));
        Check.due("one part more", -1, x.node(0, 4 + 1199));
    }

    /** "SINGLES: ( a GOAL ); not and a SINGLE; true; fail; two TERMS with = or \= between; .." */
    private static void singles() {
        shape("(a)", "21");
        shape("(a;b)", "24(21 21)");
        shape("not a", "22(21)");
        shape("not not a", "22(22(21))");
        shape("not (a)", "22(21)");
        shape("not a, b", "23(22(21) 21)");
        shape("not true", "22(10)");
        shape("not X = 1", "22(12(0 1))");
        shape("not X < 1", "22(15(0 1))");
        shape("not X is 1", "22(14(0 1))");
        shape("true", "10");
        shape("fail", "11");
        shape("a = b", "12(2 2)");
        shape("1 \\= -1", "13(1 1)");
        shape("a(X) = X", "12(2(0) 0)");
        String[] compared = {"<", "=<", ">", ">=", "=:=", "=\\="};
        for (int i = 0; i < 6; i++) {
            shape("a " + compared[i] + " 1", (15 + i) + "(2 1)");
            shape("a + 1 " + compared[i] + " (1) * X", (15 + i) + "(3(2 1) 5(1 0))");
            allMisplaced("p :- X " + compared[i] + "@.", "p :- @" + compared[i] + " 1.",
                    "p :- X " + compared[i] + " 1 @" + compared[i] + " 2.", "p :- X " + compared[i] + " 1 @= 2.",
                    "p :- X = 1 @" + compared[i] + " 2.", "p :- X is 1 @" + compared[i] + " 2.",
                    "p :- X " + compared[i] + " @not a.", "p :- true @" + compared[i] + " 1.",
                    "p :- X " + compared[i] + " 1 @is 2.");
        }
        shape("a(1, X)", "21(1 0)");
        allMisplaced("p :- X@.", "p :- X@,a.", "p :- 1@.", "p :- -1@.", "p :- not@.", "p :- not X@.", "p :- not@,a.",
                "p :- not@;a.", "p :- true@(a).", "p :- X = 1 @= 2.", "p :- X + 1 @= 2.", "p :- X + 1@.",
                "p :- a + 1@.", "p :- a(1) + 1@,b.", "p :- X = 1 @+ 2.", "p :- X \\= 1 @* 2.", "p :- X + 1 @\\= 2.",
                "p :- true @= 1.", "p :- X = @true.", "p :- a @is 1.", "p :- 1 @is 1.", "p :- a(X) @is 1.",
                "p :- X + 1 @is 1.", "p :- X = Y @is 1.", "p :- X is 1 @= 1.", "p :- X is 1 @is 1.", "p :- X is@.",
                "p :- @is 1.");
    }

    /** "A SINGLE that begins with ( is a GOAL in ( )." */
    private static void singlesInBrackets() {
        shape("(X = 1)", "12(0 1)");
        shape("((X < 1))", "15(0 1)");
        shape("(1 + 2 < 3)", "15(3(1 1) 1)");
        shape("1 < (2)", "15(1 1)");
        shape("1 + (2) < 3", "15(3(1 1) 1)");
        shape("X is (1)", "14(0 1)");
        allMisplaced("p :- (1@) < 2.", "p :- (X@) < 2.", "p :- (1 + 2@) < 3.", "p :- (X + 1@) * 2 < 3.",
                "p :- ((1@)) < 2.", "p :- (a) @< 2.", "p :- (a) @= 2.", "p :- (a(1)) @+ 1 < 2.", "p :- (X@) is 2.",
                "p :- not (1@) < 2.", "p :- (X = 1) @= 2.", "p :- (a)@(b).", "p :- (a) @b.", "p :- (@).");
    }

    /** "a VARIABLE, is, a SUM": ANONYMOUS is a VARIABLE as well. */
    private static void anyVariableIs() {
        shape("X is 1", "14(0 1)");
        shape("_ is 1", "14(0 1)");
        shape("_x is _ + X", "14(0 3(0 0))");
        Used x = Check.reads("p :- _ is 1.");
        Check.due("the value of _", -1, x.node(1, 1));
        Check.due("the place of is", 7, x.node(0, 3));
    }

    /** "( ) make no node." */
    private static void bracketsMakeNoNode() {
        String[] bare = {"a", "a, b", "a ; b", "a -> b ; c", "X = 1", "true"};
        for (String goal : bare) {
            String want = shape(goal);
            for (int n = 1; n <= 20; n++) {
                shape("(".repeat(n) + goal + ")".repeat(n), want);
            }
        }
        for (int n = 1; n <= 20; n++) {
            shape("X is " + "(".repeat(n) + "1 + 2" + ")".repeat(n), "14(0 3(1 1))");
        }
        shape("(a), (b)", "23(21 21)");
        shape("(a) ; (b)", "24(21 21)");
        shape("(a) -> (b) ; (c)", "25(21 21 21)");
        shape("not (a)", "22(21)");
    }

    /** "Of a CHOICE whose last GOAL is a CHOICE, not in ( ), the parts are one row: A ; B ; C has three." */
    private static void choicesInARow() {
        for (int n = 2; n <= 6; n++) {
            shape("a" + ";b".repeat(n - 1), "24(21" + " 21".repeat(n - 1) + ")");
        }
        shape("a;(b;c)", "24(21 24(21 21))");
        shape("a;b;(c;d)", "24(21 21 24(21 21))");
        shape("(a;b);c", "24(24(21 21) 21)");
        shape("a;(b;c);d", "24(21 24(21 21) 21)");
        shape("(a;b;c)", "24(21 21 21)");
        shape("a;((b;c))", "24(21 24(21 21))");
        shape("a;b->c;d;e", "24(21 25(21 21 24(21 21)))");
        shape("a->b;c;d;e", "25(21 21 24(21 21 21))");
        shape("a;(b->c;d;e)", "24(21 25(21 21 24(21 21)))");
        Used x = Check.reads("p:-" + "a;".repeat(1198) + "a.");
        Check.due("the parts of the longest choice", 1199, x.node(0, 2));
        Check.due("its last part", 1199, x.node(0, 4 + 1198));
        Check.due("one part more", -1, x.node(0, 4 + 1199));
        Check.due("the place of its first ;", 4, x.node(0, 3));
    }

    /**
     * "NODES are numbered from 0 on: of the CLAUSES in their order, of each its terms, then its GOAL; each
     * ahead of its PARTS .."
     */
    private static void numberedNodes() {
        Used x = Check.reads(":- pred p(a). p(X, f(1, 2)) :- X = Y, q(3). :- mode p is det. r. s(4) :- not a. t(_).");
        int[] sorts = {0, 2, 1, 1, 23, 12, 0, 0, 21, 1, 1, 22, 21, 0};
        Check.due("count(1)", sorts.length, x.count(1));
        for (int n = 0; n < sorts.length; n++) {
            Check.due("node(" + n + ", 0)", sorts[n], x.node(n, 0));
        }
        Check.due("part(1, 0, 0)", 0, x.part(1, 0, 0));
        Check.due("part(1, 1, 0)", 1, x.part(1, 1, 0));
        Check.due("item(1, 4)", 4, x.item(1, 4));
        Check.due("item(3, 4)", -1, x.item(3, 4));
        Check.due("part(4, 0, 0)", 10, x.part(4, 0, 0));
        Check.due("item(4, 4)", 11, x.item(4, 4));
        Check.due("part(5, 0, 0)", 13, x.part(5, 0, 0));
        int[][] parts = {{}, {2, 3}, {}, {}, {5, 8}, {6, 7}, {}, {}, {9}, {}, {}, {12}, {}, {}};
        for (int n = 0; n < parts.length; n++) {
            Check.due("node(" + n + ", 2)", parts[n].length, x.node(n, 2));
            for (int i = 0; i < parts[n].length; i++) {
                Check.due("node(" + n + ", 4 + " + i + ")", parts[n][i], x.node(n, 4 + i));
            }
            Check.due("node(" + n + ", behind its parts)", -1, x.node(n, 4 + parts[n].length));
        }
        // Declarations alone have no NODES.
        Check.due("nodes of declarations", 0,
                Check.reads(":- type t ---> a(b). :- pred p(t). :- mode p(in) is det. q.").count(1));
    }

    /** "NAMES and VARIABLES' names have numbers, in one row, from 0 on as they first come in the text" */
    private static void numberedNames() {
        Used x = Check.reads("b(a, B, A, b, B) :- a(C), A = c, B is C + d. :- type e ---> a ; f(b, g). "
                + ":- pred h(i). :- mode j(in) is det. k.");
        String[] names = {"b", "a", "B", "A", "C", "c", "d", "e", "f", "g", "h", "i", "j", "k"};
        Check.due("count(2)", names.length, x.count(2));
        for (int k = 0; k < names.length; k++) {
            Check.due("name " + k, names[k], Check.name(x, k));
            Check.due("find of " + names[k], k, Check.find(x, names[k]));
        }
    }

    /** "(not KEPT NAMES, nor type, pred, mode, in, out, is and what follows it where they are told so)" */
    private static void unnumberedNames() {
        Used x = Check.reads(":- type t ---> a. :- pred t. :- mode t(in, out) is det. "
                + ":- mode t is semidet. :- mode t is multi. :- mode t is nondet.");
        Check.due("names of declarations", 2, x.count(2));
        x = Check.reads("p :- true, fail, not true, X is 1 mod 2.");
        Check.due("names beside KEPT NAMES", 2, x.count(2));
        x = Check.reads(":- mode in(in) is det. :- mode det(out) is det. :- mode mode is nondet. "
                + ":- type type ---> type. :- pred pred. p(nondet).");
        String[] names = {"in", "det", "mode", "type", "pred", "p", "nondet"};
        Check.due("count(2)", names.length, x.count(2));
        for (int k = 0; k < names.length; k++) {
            Check.due("name " + k, names[k], Check.name(x, k));
        }
    }
}
