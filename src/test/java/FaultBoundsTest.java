/**
 * The boundary cases of the document's sentences on FAULTS (which WORD can stand where: FollowTest). Each
 * method has the sentence that it tests above it. An @ marks the place of a fault and is no part of the text.
 */
public final class FaultBoundsTest {
    private static final String LONG = "abcdefghijklmnopq";

    public static void main(String[] args) {
        firstFromTheLeft();
        places();
        theLeastNumber();
        strangeBytes();
        longNames();
        bigNumbers();
        numbersBehindMinus();
        theTextsEnd();
        deepBrackets();
        deepNots();
        deepMixtures();
        besideIsNotWithin();
        deepTests();
        testsInLastParts();
        mostItems();
        mostNames();
        mostNodes();
        nodesAtTheirWords();
        mostSums();
        sumsOfOneSingle();
        roomBehindAFault();
        Check.finish();
    }

    private static String fill(int nodes) {
        return "a" + ",a".repeat(nodes - 1);
    }

    /** "FAULTS, the first from the left": each ahead of each. */
    private static void firstFromTheLeft() {
        String[] marked = {"p :- @[.", "@" + LONG + ".", "p(@2147483648).", "p :- X@.",
            "p :- " + "not ".repeat(20) + "@not a.", "p :- X is 0" + "+1".repeat(40) + "@+1."};
        for (int i = 0; i < 6; i++) {
            Check.faultyAt(marked[i], i + 1);
            Check.faultyAt("a. b(c) :- d.\n" + marked[i], i + 1);
            for (int j = 0; j < 6; j++) {
                Check.faultyAt(marked[i] + " " + marked[j].replace("@", ""), i + 1);
            }
        }
    }

    /** "with a PLACE (a byte, from 0 on)": from the first byte to the text's end. */
    private static void places() {
        for (int n = 0; n < 3; n++) {
            Check.faulty(" ".repeat(n) + "[", 1, n);
            Check.faulty("\n".repeat(n) + LONG, 2, n);
            Check.faulty("\t".repeat(n) + "2147483648", 3, n);
            Check.faulty(" ".repeat(n) + "X", 4, n);
        }
        Check.faulty(" ".repeat(2999) + "]", 1, 2999);
        Check.faulty(" ".repeat(2983) + LONG, 2, 2983);
        Check.faulty(" ".repeat(2990) + "2147483648", 3, 2990);
        Check.faulty(" ".repeat(2999) + "X", 4, 2999);
        Check.faulty("p" + " ".repeat(2999), 4, 3000);
        Check.faulty("p%" + " ".repeat(2998), 4, 3000);
    }

    /** "of several at one place the least number" */
    private static void theLeastNumber() {
        String items = "a.".repeat(120);
        String nodes = "p(" + fill(1200);
        String names = "p(" + names(149);
        String deep = "p :- " + "not ".repeat(20);
        // 1 with 4 or 6
        Check.faultyAt("p @[.", 1);
        Check.faultyAt(items + "@[", 1);
        Check.faultyAt(nodes + ",@[", 1);
        Check.faultyAt(deep + "@[", 1);
        // 2 with 4 or 6
        Check.faultyAt("p @" + LONG + ".", 2);
        Check.faultyAt("p(X @" + LONG + ").", 2);
        Check.faultyAt(":- @" + LONG + ".", 2);
        Check.faultyAt("p. @A" + LONG + ".", 2);
        Check.faultyAt(items + "@" + LONG + ".", 2);
        Check.faultyAt(nodes + ",@" + LONG + ").", 2);
        Check.faultyAt(nodes + ",@_" + LONG + ").", 2);
        Check.faultyAt(names + ",@" + LONG + ").", 2);
        Check.faultyAt(names + ",@X" + LONG + ").", 2);
        // 3 with 4 or 6
        Check.faultyAt("p @2147483648.", 3);
        Check.faultyAt("@2147483648.", 3);
        Check.faultyAt("p(X @2147483648).", 3);
        Check.faultyAt(":- pred @2147483648.", 3);
        Check.faultyAt(items + "@2147483648.", 3);
        Check.faultyAt(nodes + ",@2147483648).", 3);
        // 4 with 5 or 6
        Check.faultyAt("p :- " + "(".repeat(20) + "a, X@(", 4);
        Check.faultyAt(deep + "X @not a.", 4);
        Check.faultyAt(deep + "a @not a.", 4);
        Check.faultyAt(deep + "X is @not a.", 4);
        Check.faultyAt("p" + "(a".repeat(20) + ",@(", 4);
        Check.faultyAt("p :- " + "a -> b ; ".repeat(20) + "X @-> b ; c.", 4);
        Check.faultyAt("p :- " + "a -> b ; ".repeat(20) + "@-> b ; c.", 4);
        Check.faultyAt("p :- " + "a -> b ; ".repeat(19) + "a -> b @-> b ; c.", 4);
        Check.faultyAt(items + "@X.", 4);
        Check.faultyAt(items + "@.", 4);
        Check.faultyAt(items + "@true.", 4);
        Check.faultyAt(nodes + " @a).", 4);
        Check.faultyAt(nodes + ",@true).", 4);
        Check.faultyAt(nodes + "@+1).", 4);
        Check.faultyAt(names + " @q).", 4);
        Check.faultyAt(names + ") @q.", 4);
        Check.faultyAt("p :- X is 0" + "+1".repeat(40) + " @< 1.", 4);
        // 5 with 6
        Check.faultyAt("p(" + fill(1180) + "):-" + "not ".repeat(20) + "@not a.", 5);
        Check.faultyAt("p(" + fill(1139) + "):-" + "a->b;".repeat(20) + "c@->d;e.", 5);
    }

    /** "1 a byte with which no WORD begins." */
    private static void strangeBytes() {
        for (int b = 0; b < 256; b++) {
            String text = "" + (char) b;
            if (b == 32 || b == 9 || b == 10 || b == '%') {
                Check.due("items of the byte " + b, 0, Check.reads(text).count(0));
            } else if (b >= 'a' && b <= 'z') {
                Check.faulty(text, 4, 1);
            } else if (b >= 'A' && b <= 'Z' || b >= '0' && b <= '9' || "_(),.;=+-*<>".indexOf(b) >= 0) {
                Check.faulty(text, 4, 0);
            } else {
                Check.faulty(text, 1, 0);
                Check.faulty("p :- q, " + text + "r.", 1, 8);
            }
        }
        // These begin a WORD with the right bytes behind them alone.
        Check.faulty(":", 1, 0);
        Check.faulty(":-", 4, 2);
        Check.faulty("/", 1, 0);
        Check.faulty("//", 4, 0);
        Check.faulty("\\", 1, 0);
        Check.faulty("\\=", 4, 0);
    }

    /** "2 a NAME or VARIABLE of more than 16 bytes." */
    private static void longNames() {
        String sixteen = "abcdefghijklmnop";
        String[] places = {"#.", "#(a).", ":- type # ---> a.", ":- type a ---> #.", ":- type a ---> a ; #(b).",
            ":- type a ---> b(#).", ":- pred #.", ":- pred p(#).", ":- mode # is det.", "p(#).", "p(a, f(#)).",
            "p :- #.", "p :- #(a).", "p :- X = #.", "p :- # < 1.", "p :- X is 1 + #."};
        for (String place : places) {
            Check.due("items with " + sixteen, 1, Check.reads(place.replace("#", sixteen)).count(0));
            Check.faultyAt(place.replace("#", "@" + sixteen + "q"), 2);
            Check.faultyAt(place.replace("#", "@" + sixteen + "_"), 2);
            Check.faultyAt(place.replace("#", "@" + sixteen + "9"), 2);
            Check.faultyAt(place.replace("#", "@" + sixteen + sixteen), 2);
        }
        String[] variables = {"p(#).", "p(f(#)).", "p :- # = 1.", "p :- # is 1.", "p :- X < #.", "p :- q(#)."};
        for (String place : variables) {
            Check.due("items with a VARIABLE", 1, Check.reads(place.replace("#", "A234567890123456")).count(0));
            Check.due("items with _", 1, Check.reads(place.replace("#", "_234567890123456")).count(0));
            Check.faultyAt(place.replace("#", "@A2345678901234567"), 2);
            Check.faultyAt(place.replace("#", "@_2345678901234567"), 2);
        }
    }

    private static final String[] TERM_PLACES = {"p(#).", "p(a, #).", "p(f(#)).", "p :- q(#).", "p :- X = #.",
        "p :- # = X.", "p :- X \\= #.", "p :- # < 1.", "p :- X < #.", "p :- X is #.", "p :- X is 1 + #.",
        "p :- X is 1 - #.", "p :- X is 2 * #.", "p :- X is (#).", "p :- # + 1 < 2."};

    /** "3 a NUMBER of 2^31 or more" */
    private static void bigNumbers() {
        for (String place : TERM_PLACES) {
            Check.due("items with 2147483647", 1, Check.reads(place.replace("#", "2147483647")).count(0));
            Check.due("items with zeros ahead", 1, Check.reads(place.replace("#", "00000000002147483647")).count(0));
            String[] big = {"2147483648", "2147483649", "2147483650", "3000000000", "4294967295", "4294967296",
                "4294967297", "9999999999", "10000000000", "9223372036854775807", "9223372036854775808",
                "18446744073709551615", "18446744073709551616", "18446744073709551617", "0002147483648",
                "1" + "0".repeat(100), "9".repeat(200)};
            for (String number : big) {
                Check.faultyAt(place.replace("#", "@" + number), 3);
            }
        }
        Check.faulty("p(" + "9".repeat(2998), 3, 2);
    }

    /** "(2147483648 behind a - that is part of it can be)" */
    private static void numbersBehindMinus() {
        for (String place : TERM_PLACES) {
            String[] right = {"-2147483648", "- 2147483648", "-%\n2147483648", "-002147483648", "-2147483647", "-0"};
            for (String number : right) {
                Check.due("items with " + number, 1, Check.reads(place.replace("#", number)).count(0));
            }
            String[] big = {"2147483649", "2147483650", "4294967295", "4294967296", "6442450944",
                "18446744071562067968", "18446744073709551617", "9".repeat(100)};
            for (String number : big) {
                Check.faultyAt(place.replace("#", "-@" + number), 3);
                Check.faultyAt(place.replace("#", "-  @" + number), 3);
            }
        }
        Check.due("the least value", Integer.MIN_VALUE, Check.reads("p(-2147483648).").node(0, 1));
        Check.due("the next value", -2147483647, Check.reads("p(-2147483647).").node(0, 1));
        // A - that is an operator is no part of it.
        String[] operators = {"p :- X is 1 - @2147483648.", "p :- X is 1-@2147483648.", "p :- X is Y -@2147483648.",
            "p :- X is (1) -@2147483648.", "p :- a -@2147483648 < 1.", "p :- X < 1 -@2147483648.",
            "p :- X is -1 -@2147483648."};
        for (String text : operators) {
            Check.faultyAt(text, 3);
        }
        Used x = Check.reads("p :- X is 1 - -2147483648.");
        Check.due("behind an operator and a -", Integer.MIN_VALUE, x.node(4, 1));
        Check.faultyAt("p :- X is 1 - -@2147483649.", 3);
        // What stands behind it is no fault of that number.
        Check.faultyAt("p(-2147483648 @a).", 4);
        Check.faultyAt("p(-2147483648 @1).", 4);
        Check.faultyAt("p(-2147483648 @X).", 4);
        Check.faultyAt("p(-2147483648 @true).", 4);
        Check.faultyAt("p(-2147483648@", 4);
        Check.faultyAt("p @-2147483648.", 4);
        Check.faultyAt("p(1 @-2147483648).", 4);
    }

    /** "or the TEXT's end (its length)" */
    private static void theTextsEnd() {
        String whole = ":- type t ---> a ; b ( t ) . :- pred p ( t ) . :- mode p ( in ) is det . "
                + "p ( X , - 1 , f ( a ) ) :- not ( X = 1 , true ) ; X is 1 + ( 2 ) -> q ( a ) ; fail . r .";
        String[] words = whole.split(" ");
        StringBuilder text = new StringBuilder();
        for (String word : words) {
            text.append(text.length() == 0 ? "" : " ").append(word);
            if (word.equals(".")) {
                Check.due("fault(0) of " + text, 0, Check.reads(text.toString()).fault(0));
                continue;
            }
            Check.faulty(text.toString(), 4, text.length());
            Check.faulty(text + " \n", 4, text.length() + 2);
            Check.faulty(text + " % .", 4, text.length() + 4);
            Check.faulty(text + "%.\n\t ", 4, text.length() + 5);
        }
        Check.due("no text has no fault", 0, Check.reads("").fault(0));
    }

    /** "5 a ( (also of a list) .. that is within 20 others" */
    private static void deepBrackets() {
        String[] ahead = {"p :- ", "p :- a, ", "p :- a ; ", "p :- a -> ", "p :- a -> b ; "};
        for (String text : ahead) {
            String behind = text.endsWith("-> ") ? " ; c." : ".";
            Check.due("20 in a goal", 1, Check.reads(text + "(".repeat(20) + "a" + ")".repeat(20) + behind).count(0));
            Check.faultyAt(text + "(".repeat(20) + "@(a" + ")".repeat(21) + behind, 5);
        }
        String[] sums = {"p :- X is ", "p :- X < ", "p :- X is 1 + ", "p :- 1 + ", "p :- X is 1 * "};
        for (String text : sums) {
            String behind = text.equals("p :- 1 + ") ? " < 1." : ".";
            Check.due("20 in a sum", 1, Check.reads(text + "(".repeat(20) + "1" + ")".repeat(20) + behind).count(0));
            Check.faultyAt(text + "(".repeat(20) + "@(1" + ")".repeat(21) + behind, 5);
        }
        String[] lists = {"p", "p(b, c). p", "p :- q", "p :- X = q", "p :- X \\= q", "p :- X is q", "p :- X < q",
            "p :- X is 1 + q", "p :- not true, q"};
        for (String text : lists) {
            Check.due("20 lists", 1, Check.reads(text + "(a".repeat(20) + ")".repeat(20) + ".").count(0) > 0 ? 1 : 0);
            Check.faultyAt(text + "(a".repeat(20) + "@(a" + ")".repeat(21) + ".", 5);
            Check.faultyAt(text + "(1, a".repeat(20) + "@(a", 5);
        }
    }

    /** "or a not that is within 20 others" */
    private static void deepNots() {
        Check.due("20 nots", 21, Check.reads("p :- " + "not ".repeat(20) + "a.").count(1));
        Check.due("20 nots and =", 20 + 3, Check.reads("p :- " + "not ".repeat(20) + "X = 1.").count(1));
        Check.faultyAt("p :- " + "not ".repeat(20) + "@not a.", 5);
        Check.faultyAt("p :- " + "not ".repeat(20) + "@not not a.", 5);
        Check.faultyAt("p :- a, " + "not ".repeat(20) + "@not a.", 5);
    }

    /** Of ( and not the others are both: "a ( .. or a not that is within 20 others". */
    private static void deepMixtures() {
        for (int nots = 0; nots <= 20; nots++) {
            int brackets = 20 - nots;
            String open = "(".repeat(brackets) + "not ".repeat(nots);
            String close = ")".repeat(brackets) + ".";
            Check.due("20 of both", 1, Check.reads("p :- " + open + "a" + close).count(0));
            Check.faultyAt("p :- " + open + "@(a)" + close, 5);
            Check.faultyAt("p :- " + open + "@not a" + close, 5);
            Check.faultyAt("p :- " + open + "a@(b)" + close, 5);
            Check.faultyAt("p :- " + open + "X = f@(b)" + close, 5);
            Check.faultyAt("p :- " + open + "X is @(b)" + close, 5);
            Check.faultyAt("p :- " + open + "1 + @(b)" + close, 5);
            Check.faultyAt("p :- " + "not ".repeat(nots) + "(".repeat(brackets) + "@not a" + close, 5);
            Check.faultyAt("p :- " + "not ".repeat(nots) + "q" + "(a".repeat(brackets) + "@(b)" + close, 5);
            Check.faultyAt("p :- " + "not ".repeat(nots) + "X is " + "(".repeat(brackets) + "f@(b)" + close, 5);
        }
        Check.due("19 and a list", 1, Check.reads("p :- " + "(".repeat(19) + "a(b)" + ")".repeat(19) + ".").count(0));
        Check.due("19 and a ( of a sum", 1, Check.reads("p :- " + "not ".repeat(19) + "X is (1).").count(0));
        Check.due("18 and a list in a sum", 1, Check.reads("p :- " + "not ".repeat(18) + "X is (f(1)).").count(0));
    }

    /** "within": what is closed, or stands beside, is not around. */
    private static void besideIsNotWithin() {
        String deep = "(".repeat(20) + "a" + ")".repeat(20);
        String[] texts = {deep + ", " + deep, deep + " ; " + deep, deep + " -> " + deep + " ; " + deep,
            "not ".repeat(20) + "a, " + deep, "X is " + deep + " + " + deep,
            "f" + "(a".repeat(20) + ")".repeat(20) + " = f" + "(a".repeat(20)
            + ")".repeat(20), "(".repeat(19) + "(a), (b), not c, d(e), X is (1) + (2), Y = f(1)" + ")".repeat(19),
                    "(a), ".repeat(100) + "a", "not a, ".repeat(100) + "a"};
        for (String text : texts) {
            Check.due("items of " + text, 1, Check.reads("p :- " + text + ".").count(0));
        }
        String list = "(a".repeat(19) + ", b(c), d(e)" + ")".repeat(19);
        Check.due("lists beside one another", 1, Check.reads("p" + list + " :- q" + list + ".").count(0));
        Check.due("those of the head are not around the goal", 1, Check.reads("p" + "(a".repeat(20) + ")".repeat(20)
                + " :- " + deep + ".").count(0));
        Check.due("nor those of an item before", 2, Check.reads("p :- " + deep + ". p :- " + deep + ".").count(0));
    }

    /** "or a -> within 20 others" */
    private static void deepTests() {
        for (int n = 1; n <= 20; n++) {
            Used x = Check.reads("p :- " + "a -> b ; ".repeat(n) + "c.");
            Check.due("nodes of " + n + " tests", 3 * n + 1, x.count(1));
        }
        String twenty = "p :- " + "a -> b ; ".repeat(20);
        String[] marked = {"c @-> d ; e.", "c, d @-> e ; f.", "c ; d @-> e ; f.", "c ; d ; e @-> f ; g.",
            "X = 1 @-> d ; e.", "true @-> d ; e.", "not c @-> d ; e.", "(c) @-> d ; e.", "c @-> d -> e.", "c @->"};
        for (String text : marked) {
            Check.faultyAt(twenty + text, 5);
        }
        Check.due("a choice within 20", 1, Check.reads(twenty + "c ; d ; e.").count(0));
        Check.due("another item's", 2, Check.reads(twenty + "c. " + twenty + "c.").count(0));
    }

    /** "(within the last part of each)": not within its first or second, and in ( ) or not as well. */
    private static void testsInLastParts() {
        String nineteen = "a -> b ; ".repeat(19);
        String twenty = "a -> b ; ".repeat(20);
        String[] right = {nineteen + "(c -> d ; e) -> f ; g", nineteen + "c -> (d -> e ; f) ; g",
            nineteen + "(c -> d ; e)", nineteen + "not (c -> d ; e)", "(" + twenty + "c) -> (" + twenty + "c) ; c",
            "(" + twenty + "c) -> d ; " + nineteen + "c", "(" + twenty + "c), (" + twenty + "c)",
            "(" + twenty + "c) ; (" + twenty + "c)", "a -> (".repeat(20) + twenty + "c" + ") ; d".repeat(20),
            "(".repeat(20) + twenty + "c" + ") -> d ; e".repeat(20), "a -> (x -> y ; z) ; ".repeat(20) + "c",
            "(x -> y ; z) -> b ; ".repeat(20) + "c", "a -> b ; (".repeat(19) + "a -> b ; c" + ")".repeat(19)};
        for (String goal : right) {
            Check.due("items of " + goal, 1, Check.reads("p :- " + goal + ".").count(0));
        }
        String[] marked = {twenty + "(c @-> d ; e)", twenty + "c, (c @-> d ; e)", twenty + "not (c @-> d ; e)",
            twenty + "c ; (c @-> d ; e) ; f", twenty + "((not (c @-> d ; e)))",
            nineteen + "a -> b ; (c ; (d @-> e ; f))", "a -> b ; (".repeat(20) + "c @-> d ; e" + ")".repeat(20),
            nineteen + "a -> (c -> d ; e @-> f ; g) ; h", nineteen + "(c -> d ; e @-> f ; g) -> a ; h"};
        for (String goal : marked) {
            Check.faultyAt("p :- " + goal + ".", 5);
        }
    }

    /** "6 what there is no room for: the 121st ITEM (at its first WORD)" */
    private static void mostItems() {
        String[] items = {"a.", "a(b).", "a:-b.", ":-pred a.", ":-type a--->b.", ":-mode a is det."};
        for (String item : items) {
            Used x = Check.reads(item.repeat(119));
            Check.due("count(0) of 119", 119, x.count(0));
            x = Check.reads(item.repeat(120));
            Check.due("count(0) of 120", 120, x.count(0));
            Check.due("the place of the last", 119 * item.length(), x.item(119, 5));
            Check.due("the sort of a 121st", -1, x.item(120, 0));
            Check.due("count(0) of 120 and blanks", 120, Check.reads(item.repeat(120) + " % a.\n").count(0));
            for (String next : items) {
                Check.faultyAt(item.repeat(120) + "@" + next, 6);
                Check.faultyAt(item.repeat(120) + " \n@" + next, 6);
            }
            Check.faultyAt(item.repeat(120) + "@a", 6);
            Check.faultyAt(item.repeat(120) + "@:-", 6);
            Check.faultyAt(item.repeat(120) + "@a [", 6);
            Check.faulty(item.repeat(122), 6, 120 * item.length());
        }
    }

    /** So many NAMES with , between, none of them p or q. */
    private static String names(int n) {
        StringBuilder out = new StringBuilder();
        for (int i = 0; i < n; i++) {
            out.append(i == 0 ? "" : ",").append((char) ('a' + i / 100)).append(i % 100);
        }
        return out.toString();
    }

    /** "the 151st name (at it)" */
    private static void mostNames() {
        String pred = ":-pred p(" + names(149) + ").";
        Used x = Check.reads(pred);
        Check.due("count(2) of 150", 150, x.count(2));
        Check.due("the 150th name", "b48", Check.name(x, 149));
        Check.due("a 151st", -1, x.name(150, 0));
        Check.due("count(2) of 149", 149, Check.reads(":-pred p(" + names(148) + ").").count(2));
        // What has a number, or none, takes no room.
        String[] right = {"p.", "a0.", "p(_).", "p(1).", "p:-true,fail,not p,_ is 1 mod 2.", ":-type p--->a0(a1).",
            ":-mode p(in,out)is nondet.", "p:-a0(a1,b48),a2=_.",
            ":-mode p is det.:-mode p is semidet.:-mode p is multi."};
        for (String item : right) {
            Check.due("count(2) with " + item, 150, Check.reads(pred + item).count(2));
        }
        String[] marked = {"@q.", "@q", "@q(p).", "p(@q).", "p(@Q).", "p(@_q).", "p(@__).", "p(p,_,p(@q)).", "p:-@q.",
            "p:-@Q=1.", "p:-p=@q.", "p:-_ is @Q.", "p:-1<@q.", "p:-p,@q.", "p:-@in.", "p:-@det.", "p:-@type.",
            ":-type @q--->p.", ":-type p--->@q.", ":-type p--->p;@q.", ":-type p--->p(@q).", ":-type p--->p(p,@q).",
            ":-pred @q.", ":-pred p(@q).", ":-mode @q is det.", ":-mode @in(in)is det.", ":-type @type--->p."};
        for (String item : marked) {
            Check.faultyAt(pred + item, 6);
        }
        Check.faultyAt("p(" + names(149) + ",@q).", 6);
        Check.due("VARIABLES count as well", 150, Check.reads("p(" + names(149).toUpperCase() + ").").count(2));
        Check.faultyAt("p(" + names(149).toUpperCase() + ",@q).", 6);
    }

    /** "the 1201st node" */
    private static void mostNodes() {
        Used x = Check.reads("p(" + fill(1200) + ").");
        Check.due("count(1) of 1200", 1200, x.count(1));
        Check.due("the sort of the last", 2, x.node(1199, 0));
        Check.due("the sort of a 1201st", -1, x.node(1200, 0));
        Check.due("count(1) of 1199", 1199, Check.reads("p(" + fill(1199) + ").").count(1));
        Check.faultyAt("p(" + fill(1200) + ",@a).", 6);
        // Of all CLAUSES together, and what is no node takes no room.
        x = Check.reads("p(" + fill(600) + ").q(" + fill(600) + ").p.:-pred p(a).:-type t--->b.:-mode p(in)is det.");
        Check.due("count(1) of two clauses", 1200, x.count(1));
        Check.faultyAt("p(" + fill(600) + ").q(" + fill(600) + ").p.r(@a).", 6);
        Check.faultyAt("p(" + fill(600) + ").q(" + fill(600) + "):-@a.", 6);
        Check.due("( ) take no room", 1200, Check.reads("p(" + fill(1199) + "):-(((a))).").count(1));
        Check.due("what follows a first , or ; takes no room", 1200, Check.reads("p(" + fill(1194)
                + "):-a,b,c,d,e.").count(1));
    }

    /**
     * "Nodes are counted at the WORD that makes them: terms, true, fail and CALLS at their first one, not at
     * it, those with a sign
     * or is between at that, SUMS at their operator, a ROW at its first , , a CHOICE at its first ; , a TEST at -> ."
     * Each @ stands ahead of a WORD that makes a node: with so little room that it is the 1201st, the fault is there.
     */
    private static void nodesAtTheirWords() {
        String[] goals = {"@a", "@a(@b)", "@a(@X,@_,@1,@-1,@- 1,@b(@c))", "@true", "@fail", "@not @a",
            "@not @not @true", "@X@=@1", "@a(@b)@\\=@c(@d)", "@X @is @1", "@X@<@1", "@X@=<@1", "@X@>@1", "@X@>=@1",
            "@X@=:=@1", "@X@=\\=@1", "@X @is @1@+@2@-@3", "@X @is @1@*@2@//@3 @mod @4", "@X @is @1@+@2@*@3",
            "@1@-@1@<@-1@- @1", "@X @is (@1@+(@2))@*@3", "@a@,@b", "@a@,@b,@c,@d", "@a@;@b", "@a@;@b;@c;@d",
            "@a@->@b;@c", "@a@->@b;@c@;@d", "@a@->@b;@c@;@d;@e", "@a@->@b;@c@->@d;@e", "@a@;@b@->@c;@d",
            "@a@,@b@->@c@,@d;@e@,@f", "@a@,@b@;@c@,@d,@e;@f", "(@a@,@b)@,(@c@,@d)", "(@a@;@b)@;(@c@;@d)", "((@a))",
            "@not (@a@;@b)", "(@a@->@b;@c)@->(@d);@e", "@a@,(@b@;@c),@d", "@X@=@a(@b)@,@true"};
        for (String goal : goals) {
            String bare = goal.replace("@", "");
            int nodes = goal.length() - bare.length();
            Used x = Check.reads("p(" + fill(1200 - nodes) + "):-" + bare + ".");
            Check.due("count(1) with " + bare, 1200, x.count(1));
            int at = -1;
            for (int room = 0; room < nodes; room++) {
                at = goal.indexOf('@', at + 1);
                String ahead = goal.substring(0, at).replace("@", "");
                Check.faultyAt("p(" + fill(1200 - room) + "):-" + ahead + "@" + goal.substring(at).replace("@",
                        "") + ".", 6);
            }
        }
    }

    /** "the 41st SUM of one SINGLE" */
    private static void mostSums() {
        String[] operators = {"+", "-", "*", "//", " mod "};
        for (String operator : operators) {
            String one = operator + "1";
            String marked = operator.replace("mod", "@mod");
            marked = (marked.contains("@") ? marked : "@" + marked) + "1";
            String[] ahead = {"p :- X is 0", "p :- X < 0", "p :- 0 < 0", "p :- not X is 0", "p :- a, X is 0"};
            for (String text : ahead) {
                Check.due("39 sums", 1, Check.reads(text + one.repeat(39) + ".").count(0));
                Check.due("40 sums", 1, Check.reads(text + one.repeat(40) + ".").count(0));
                Check.faultyAt(text + one.repeat(40) + marked + ".", 6);
                Check.faultyAt(text + "+1".repeat(40) + marked + ".", 6);
            }
            Check.due("40 sums ahead of <", 1, Check.reads("p :- 0" + one.repeat(40) + " < 1.").count(0));
            Check.faultyAt("p :- 0" + one.repeat(40) + marked + " < 1.", 6);
        }
        // A 41st operator that can't stand there is that.
        Check.faultyAt("p :- X is 0" + "+1".repeat(40) + " @= 1.", 4);
        Check.faultyAt("p :- X is 0" + "+1".repeat(39) + "+@+1.", 4);
    }

    /** "of one SINGLE": of both its sides and in ( ) together, but not of another SINGLE. */
    private static void sumsOfOneSingle() {
        String forty = "0" + "+1".repeat(40);
        for (int left = 0; left <= 40; left += 8) {
            String sides = "0" + "-1".repeat(left) + " < 0" + "*1".repeat(40 - left);
            Check.due("40 of both sides", 1, Check.reads("p :- " + sides + ".").count(0));
            Check.faultyAt("p :- " + sides + "@*1.", 6);
            Check.faultyAt("p :- " + sides + "@-1.", 6);
            String nested = "X is (0" + "-1".repeat(left) + ")" + "*1".repeat(40 - left);
            Check.due("40 in ( ) and behind", 1, Check.reads("p :- " + nested + ".").count(0));
            Check.faultyAt("p :- " + nested + "@+1.", 6);
        }
        Check.due("20 in one another", 1, Check.reads("p :- X is 0" + "+(1".repeat(20) + ")".repeat(20)
                + "-1".repeat(20) + ".").count(0));
        Check.faultyAt("p :- X is 0" + "+(1".repeat(20) + ")".repeat(20) + "-1".repeat(20) + "@-1.", 6);
        String[] more = {"X is #, Y is #", "X is # ; Y is #", "X is # -> Y is # ; Z is #", "not X is #, not X is #",
            "(X is #, Y is #)", "not (X is #, # < 1)", "# < 1, # < 1, 1 < #", "(# < 1), (# < 1)",
            "(X is # -> (Y is #) ; not (Z is #))"};
        for (String goal : more) {
            Check.due("items of " + goal, 1, Check.reads("p :- " + goal.replace("#", forty) + ".").count(0));
            int last = goal.lastIndexOf('#');
            String marked = goal.substring(0, last).replace("#", forty) + forty + "@+1" + goal.substring(last + 1);
            Check.faultyAt("p :- " + marked + ".", 6);
        }
        Check.due("40 in each of two items", 2, Check.reads("p :- X is " + forty + ". p :- X is " + forty
                + ".").count(0));
    }

    /** What a fault stood behind takes no room, and none is around, when the next text is read. */
    private static void roomBehindAFault() {
        String forty = "X is 0" + "+1".repeat(40);
        String[] full = {"a.".repeat(120), "p(" + names(149) + ").", "p(" + fill(600) + ").", "p:-" + forty + ".",
            "p:-" + "(".repeat(20) + "a" + ")".repeat(20) + ".", "p:-" + "a->b;".repeat(20) + "c.",
            "p:-" + "not ".repeat(20) + "a."};
        String[] faulty = {"a.".repeat(121), "p(" + names(150) + ").", "p(" + fill(600) + "):-[", "p:-" + forty + "+1.",
            "p:-" + "(".repeat(21), "p:-" + "a->b;".repeat(20) + "c->", "p:-" + "not ".repeat(21), "p:-" + forty,
            "p:-" + "(".repeat(20) + "q"};
        for (String fault : faulty) {
            for (String text : full) {
                Used x = new Used();
                Check.due("read() of " + fault, Check.THROWN, Check.read(x, fault));
                Check.due("read() of " + text, 1, Check.read(x, text) > 0 ? 1 : 0);
                Check.due("what is read of " + text, Check.all(Check.reads(text)), Check.all(x));
            }
        }
        Used x = new Used();
        Check.due("read() of 1201 nodes", Check.THROWN, Check.read(x, "p(" + fill(1201)));
        Check.due("read() of 100", 1, Check.read(x, "p(" + fill(100) + ")."));
        Check.due("count(1)", 100, x.count(1));
        x = new Used();
        Check.due("read() of 700 nodes", 1, Check.read(x, "p(" + fill(700) + ")."));
        Check.due("read() of 701 nodes", 1, Check.read(x, "p(" + fill(701) + ")."));
        Check.due("read() of 702 nodes", 1, Check.read(x, "p(" + fill(702) + ")."));
        Check.due("count(1) of the last", 702, x.count(1));
    }
}
