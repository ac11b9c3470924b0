/** Promise 5: the number and the place of each fault; an @ marks the place and is no part of the text. */
public final class FaultTest {
    public static void main(String[] args) {
        otherWhats();
        strangeBytes();
        longNames();
        bigNumbers();
        misplacedInDeclarations();
        misplacedInClauses();
        misplacedInGoals();
        misplacedInSums();
        firstFromTheLeft();
        Check.finish();
    }

    private static void otherWhats() {
        Used x = new Used();
        Check.read(x, "p :- .");
        Check.due("fault(0)", 4, x.fault(0));
        Check.due("fault(1)", 5, x.fault(1));
        int[] others = {2, -1, 3, Integer.MAX_VALUE, Integer.MIN_VALUE};
        for (int what : others) {
            Check.due("fault(" + what + ")", -1, x.fault(what));
        }
        Check.due("read() of blanks", 0, Check.read(x, " "));
        Check.due("fault(0) without one", 0, x.fault(0));
        Check.due("fault(1) without one", -1, x.fault(1));
    }

    private static void strangeBytes() {
        String[] bytes = {"[", "]", "{", "}", "!", "\"", "'", "#", "$", "&", "?", "^", "`", "|", "~",
            "\0", "\r", "\u007f", "\u0080", "\u00e4", "\u00ff"};
        for (String strange : bytes) {
            Check.faulty(strange, 1, 0);
            Check.faulty("p :- q" + strange + ".", 1, 6);
            Check.faulty("p(" + strange, 1, 2);
            Check.reads("p. %" + strange + "\nq.");
        }
        Check.faulty("@", 1, 0);
        // What begins a sign only together with more.
        Check.faultyAt("p @: - q.", 1);
        Check.faultyAt("p @:", 1);
        Check.faultyAt("p :- X is 1 @/ 2.", 1);
        Check.faultyAt("p :- X is 1//@/2.", 1);
        Check.faultyAt("p :- X @\\ = 2.", 1);
        Check.faultyAt("p :- X =@\\ 2.", 1);
        Check.faultyAt("p :- X =@: 2.", 1);
        Check.faultyAt("p :- X @\\", 1);
        Check.faultyAt("p :- X @\\\\= 1.", 1);
    }

    private static void longNames() {
        Check.reads("abcdefghijklmnop.");
        Check.reads("p(Abcdefghijklmnop, _bcdefghijklm_O9).");
        Check.faultyAt("@abcdefghijklmnopq.", 2);
        Check.faultyAt("p(@Abcdefghijklmnopq).", 2);
        Check.faultyAt("p(@_________________).", 2);
        Check.faultyAt("p :- @a23456789012345678901234567890.", 2);
        Check.faultyAt(":- @typetypetypetypet t ---> a.", 2);
        Check.faultyAt(":- mode p is @nondetnondetnonde.", 2);
        Check.faultyAt(":- mode p(@outoutoutoutoutou) is det.", 2);
        // Where none can stand it is still the lesser number.
        Check.faultyAt("p @abcdefghijklmnopq.", 2);
        Check.faultyAt("p(X @Abcdefghijklmnopq).", 2);
        Check.faultyAt("p. @Abcdefghijklmnopq.", 2);
    }

    private static void bigNumbers() {
        Used x = Check.reads("p(2147483647, -2147483648, - 2147483648, 000000000000002147483647, -0).");
        Check.due("the most", Integer.MAX_VALUE, x.node(0, 1));
        Check.due("the least", Integer.MIN_VALUE, x.node(1, 1));
        Check.due("the least behind a blank", Integer.MIN_VALUE, x.node(2, 1));
        Check.due("the most behind zeros", Integer.MAX_VALUE, x.node(3, 1));
        Check.due("-0", 0, x.node(4, 1));
        Check.faultyAt("p(@2147483648).", 3);
        Check.faultyAt("p(-@2147483649).", 3);
        Check.faultyAt("p(- % a\n @2147483649).", 3);
        Check.faultyAt("p(@4294967296).", 3);
        Check.faultyAt("p(@18446744073709551617).", 3);
        Check.faultyAt("p(-@99999999999999999999999999999999999999).", 3);
        Check.faultyAt("p(@0002147483648).", 3);
        Check.faultyAt("p :- X is 1 - @2147483648.", 3);
        Check.reads("p :- X is 1 - -2147483648.");
        Check.reads("p :- -2147483648 < X, X = -2147483648.");
        Check.faultyAt("p :- @2147483648 < 1.", 3);
        Check.faultyAt("p :- X = @2147483648.", 3);
        // Where none can stand it is still the lesser number.
        Check.faultyAt("p @2147483648.", 3);
        Check.faultyAt("@2147483648.", 3);
        Check.faultyAt(":- type @2147483648.", 3);
        Check.faultyAt("p(1 @2147483648).", 3);
    }

    private static void misplacedInDeclarations() {
        String[] marked = {":- @", ":- @.", ":- @p.", ":- @Type t ---> a.", ":- @is t.", ":- @types t ---> a.",
            ":- @typ t ---> a.", ":- @:-", ":- type @.", ":- type @T ---> a.", ":- type @true ---> a.",
            ":- type t @-> a.", ":- type t @- --> a.", ":- type t @(a) ---> a.", ":- type t @.", ":- type t ---> @.",
            ":- type t ---> @not.", ":- type t ---> a @, b.", ":- type t ---> a ; @.", ":- type t ---> a(@) .",
            ":- type t ---> a(b@;c).", ":- type t ---> a(@X).", ":- type t ---> a(@1).", ":- type t ---> a(b, @).",
            ":- type t ---> a(b@(c)).", ":- type t ---> a(b) @(c).", ":- type t ---> a(b) @b.",
            ":- type t ---> a(b@.", ":- type t ---> a@", ":- type t ---> a @:- b.", ":- type t ---> @; a.",
            ":- pred @.", ":- pred @mod.", ":- pred p(@) .", ":- pred p(a, @).", ":- pred p(a @b).",
            ":- pred p(a, @B).", ":- pred p(a) @is det.", ":- pred p @; q.", ":- pred p(a@(b)).",
            ":- mode @.", ":- mode p @.", ":- mode p(@).", ":- mode p(@a) is det.", ":- mode p(in, @) is det.",
            ":- mode p(in @out) is det.", ":- mode p(in@(in)) is det.", ":- mode p(in) @.", ":- mode p(in) @det.",
            ":- mode p is @.", ":- mode p is @some.", ":- mode p is @in.", ":- mode p is @de.",
            ":- mode p is @dets.", ":- mode p is @Det.", ":- mode p is @is.", ":- mode p is det @det.",
            ":- mode p is det@", ":- mode p(@ins) is det.", ":- mode p(@In) is det.", ":- mode p(@i) is det."};
        for (String text : marked) {
            Check.faultyAt(text, 4);
        }
    }

    private static void misplacedInClauses() {
        String[] marked = {"@.", "@P.", "@_.", "@1.", "@-1.", "@(p).", "@not p.", "@true.", "@fail.", "@is.", "@mod.",
            "@,", "@; p.", "@= p.", "@---> p.", "p@", "p % .@", "p  \n@", "p(@", "p(@).", "p(@,a).", "p(a@", "p(a@;b).",
            "p(a,@).", "p(a,@,b).", "p(a @b).", "p(@(a)).", "p(a)@(b).", "p(@true).", "p(@fail).", "p(@not).",
            "p(@is).", "p(@mod).", "p(a@+b).", "p(1@-1).", "p(-@a).", "p(-@X).", "p(-@-1).", "p(-@(1)).", "p(-@).",
            "p(-@", "p(X@(a)).", "p(1@(a)).", "p(a @= b).", "p@, q.", "p@; q.", "p@-> q.", "p @q.", "p @= q.",
            "p @is q.", "p. @.", "p :- q.@.", "p(a@:-b)."};
        for (String text : marked) {
            Check.faultyAt(text, 4);
        }
    }

    private static void misplacedInGoals() {
        String[] marked = {"@", "@.", "a@", "a @", "a @b.", "a @:- b.", "a, @.", "a, @, b.", "a ; @.", "a ; @; b.",
            "@, a.", "@; a.", "@-> a ; b.", "@).", "a@).", "(a@.", "(@).", "(a, @).", "(a@", "(a) @b.", "(a)@(b).",
            "(X = 1) @= 2.", "(X@) < 2.", "(1 @) < 2.", "(X + 1@) < 2.", "(1@, 2).", "not @.", "not @, a.", "not@",
            "not @-> a ; b.", "true@(a).", "fail @= 1.", "true @true.", "not not @.", "@is.", "@mod.", "@= 1.", "@< 1.",
            "@+ 1 < 2.", "@* .", "X@.", "X@, a.", "X@)", "X @; a.", "X @-> a ; b.", "1@.", "-1@.", "-@a.", "X@(a).",
            "X @Y.", "X @true.", "X @not a.", "1 @is 2.", "a @is 2.", "a(X) @is 2.", "-1 @is 2.", "X is @.", "X is 1 @is 2.",
            "X is Y @< 2.", "X is Y @= 2.", "X = @.", "X = @(a).", "X = @true.", "X = @not a.", "X = 1 @= 2.",
            "X = 1 @+ 2.", "X = a(1 @+ 2).", "X \\= 1 @< 2.", "X = Y @is 2.", "X \\= @is.", "X < 1 @= 2.", "X < 1 @< 2.",
            "X + 1 @= 2.", "X + 1 @\\= 2.", "X + 1 @is 2.", "X + 1@.", "a + 1@.", "a + 1@, b.", "1 =< 2 @>= 1.",
            "X @---> a.", "a -> b@.", "a -> b@)", "a -> b @-> c ; d.", "a -> @; c.", "a -> b ; @.", "a -> b, c@.",
            "(a -> b@).", "(a -> b@), c.", "a ; b -> c@.", "a -> b ; c -> d@.", "a -- @> b ; c.", "a@--->b;c.", "a-@->b;c.", "a-@--->b;c.", "a <@= b.",
            "a =@> b.", "a = @< b.", "a(@).", "a(b, @).", "a(@+ 1).", "a(b) @(c).", "a(b) @b.", "a @1.", "a @X."};
        for (String text : marked) {
            Check.faultyAt("p :- " + text, 4);
        }
    }

    private static void misplacedInSums() {
        String[] marked = {"@)", "(@)", "(1@", "(1 + @)", "1 +@", "1 + @.", "1 + @* 2", "1 + @+ 2", "1 * @// 2", "1 @2",
            "1 mod @mod 2", "1 mod @", "1 - - @- 2", "- @(1)", "(-@(1))", "1 + (2@", "1 + (2 @< 3)", "1 @(2)", "(1) @(2)",
            "(1 @= 2)", "@not 1", "@true", "1 + @true", "1 @is 2", "1 + (@not a)", "(1@, 2)", "(1@; 2)", "f(@(1))",
            "f(1 @+ 2)", "1 @)", "((1)@, 2)", "X@(1)"};
        for (String text : marked) {
            String rest = text.endsWith("@") ? "" : ".";
            Check.faultyAt("p :- X is " + text + rest, 4);
            Check.faultyAt("p :- X =< " + text + rest, 4);
        }
    }

    private static void firstFromTheLeft() {
        Check.faultyAt("p :- X @. [", 4);
        Check.faultyAt("p :- @[ . X.", 1);
        Check.faultyAt("p(@2147483648) abcdefghijklmnopq [.", 3);
        Check.faultyAt("p @q [.", 4);
        Check.faultyAt("p. q. r :- s, t@", 4);
        Check.faultyAt("p :- q @r2147483648.", 4);
        Check.faultyAt("p :- q.\n% X.\n  @X.", 4);
    }
}
