/** Promises 12 and 13: tell and letter. */
public final class TellTest {
    public static void main(String[] args) {
        asItStands();
        tidied();
        sums();
        goals();
        out();
        Check.finish();
    }

    /** What the one item of a text is told as. */
    private static void told(String text, String want) {
        Used x = Check.reads(text);
        Check.due("told of " + text, want, Check.told(x, 0));
        Check.due("tell(0) of " + text, want.length(), x.tell(0));
    }

    private static void asItStands() {
        String[] texts = {":- type t ---> a ; b(t, int).", ":- type t ---> t.", ":- type a ---> b(c) ; d(e, f, g) ; h.",
            ":- mode p(in, out) is det.", ":- mode p is semidet.", ":- mode q(out) is multi.", ":- mode q(in) is nondet.",
            ":- pred p.", ":- pred p(a).", ":- pred p(a, b, c).", "p.", "p(X).", "p(_, __, _x, Y) :- q.",
            "p(X, a(-1)) :- q(X), not r ; X = 1 -> true ; fail.", "p(f(g(h(1, 2), 3), 4), 5, k).",
            "p :- X = Y, X \\= Y, X < Y, X =< Y, X > Y, X >= Y, X =:= Y, X =\\= Y, X is Y.",
            "p :- 1 = -1, f(X) \\= g(Y), -1 < 1, a(b) + 1 =:= c.", "p :- _ is _ + _.",
            "p(0, 7, 10, 100, 1000000000, 2147483647, -2147483648, -1, -10).",
            "abcdefghijklmnop(Abcdefghijklmnop) :- abcdefgh, abcdefghi."};
        for (String text : texts) {
            told(text, text);
        }
    }

    private static void tidied() {
        told(" :-\ttype t--->a;b(t,int) .", ":- type t ---> a ; b(t, int).");
        told(":- type t ---> a ( b ) ; c.", ":- type t ---> a(b) ; c.");
        told(":-pred p ( a,b\n,c ).", ":- pred p(a, b, c).");
        told(":-mode p(in ,out)is det .", ":- mode p(in, out) is det.");
        told("p (X ,- 1 , 007,-0, 00, - % minus\n 012):-q.", "p(X, -1, 7, 0, 0, -12) :- q.");
        told("p:-q(X),not r;X=1->true;fail.", "p :- q(X), not r ; X = 1 -> true ; fail.");
        told("p:-X=-1,X=<-1,X\\=a(-1,b).", "p :- X = -1, X =< -1, X \\= a(-1, b).");
    }

    private static void sum(String sum, String want) {
        told("p :- X is " + sum + ".", "p :- X is " + want + ".");
        told("p :- X < " + sum + ".", "p :- X < " + want + ".");
    }

    private static void sums() {
        sum("1+2-3", "1 + 2 - 3");
        sum("(1+2)-3", "1 + 2 - 3");
        sum("1+(2-3)", "1 + (2 - 3)");
        sum("1-(2+3)", "1 - (2 + 3)");
        sum("1*2//3 mod 4", "1 * 2 // 3 mod 4");
        sum("((1*2)//3)mod 4", "1 * 2 // 3 mod 4");
        sum("1*(2//(3 mod 4))", "1 * (2 // (3 mod 4))");
        sum("1 mod (2*3)", "1 mod (2 * 3)");
        sum("(1+2)*(3-4)", "(1 + 2) * (3 - 4)");
        sum("(1*2)+(3//4)", "1 * 2 + 3 // 4");
        sum("1+2*3", "1 + 2 * 3");
        sum("1*2+3", "1 * 2 + 3");
        sum("(((1)))", "1");
        sum("((X)+((f(Y))))", "X + f(Y)");
        sum("-1- -1", "-1 - -1");
        sum("1--1*(-2)", "1 - -1 * -2");
        sum("(1-2)mod(3-4)", "(1 - 2) mod (3 - 4)");
        sum("1-2*(3+4)-5", "1 - 2 * (3 + 4) - 5");
        told("p:-1+(2+3)*4<5.", "p :- 1 + (2 + 3) * 4 < 5.");
        told("p:-a*(b)=:=(c)*d.", "p :- a * b =:= c * d.");
    }

    private static void goal(String goal, String want) {
        told("p :- " + goal + ".", "p :- " + want + ".");
    }

    private static void goals() {
        goal("(a)", "a");
        goal("((a,b))", "a, b");
        goal("(a,b),c", "(a, b), c");
        goal("a,(b,c)", "a, (b, c)");
        goal("a,(b;c)", "a, (b ; c)");
        goal("a,(b->c;d)", "a, (b -> c ; d)");
        goal("a,(not b),(true)", "a, not b, true");
        goal("not(a)", "not a");
        goal("not((a,b))", "not (a, b)");
        goal("not(a;b)", "not (a ; b)");
        goal("not(a->b;c)", "not (a -> b ; c)");
        goal("not(not(X=1))", "not not X = 1");
        goal("not not(a,b)", "not not (a, b)");
        goal("(a,b);(c,d)", "a, b ; c, d");
        goal("(a;b);c", "(a ; b) ; c");
        goal("a;(b;c);d", "a ; (b ; c) ; d");
        goal("a;(b;c)", "a ; (b ; c)");
        goal("a;b;c", "a ; b ; c");
        goal("(a->b;c);d", "(a -> b ; c) ; d");
        goal("a;(b->c;d);e", "a ; (b -> c ; d) ; e");
        goal("a;(b->c;d)", "a ; b -> c ; d");
        goal("a;b->c;d", "a ; b -> c ; d");
        goal("(a,b)->(c,d);(e,f)", "a, b -> c, d ; e, f");
        goal("(a;b)->(c;d);(e;f)", "(a ; b) -> (c ; d) ; e ; f");
        goal("(a->b;c)->(d->e;f);(g->h;i)", "(a -> b ; c) -> (d -> e ; f) ; g -> h ; i");
        goal("(not a)->(not b);(not c)", "not a -> not b ; not c");
        goal("not a->not b;not c", "not a -> not b ; not c");
    }

    private static void out() {
        Used x = Check.reads("p(X). :- pred q(a).");
        Check.due("letter(0) before tell", -1, x.letter(0));
        Check.due("tell(2) before tell", -1, x.tell(2));
        Check.due("letter(0) still", -1, x.letter(0));
        Check.due("tell(1)", 13, x.tell(1));
        Check.due("letter(0)", ':', x.letter(0));
        Check.due("letter(12)", '.', x.letter(12));
        Check.due("letter(13)", -1, x.letter(13));
        Check.due("letter(-1)", -1, x.letter(-1));
        Check.due("tell(0)", 5, x.tell(0));
        Check.due("letter(4)", '.', x.letter(4));
        Check.due("letter(5) of a shorter OUT", -1, x.letter(5));
        Check.due("tell(-1)", -1, x.tell(-1));
        Check.due("tell(2)", -1, x.tell(2));
        Check.due("letter(0) stays", 'p', x.letter(0));
        Check.due("read()", 1, Check.read(x, "zz."));
        Check.due("letter(0) stays behind read()", 'p', x.letter(0));
        Check.due("tell(1) of what is no more", -1, x.tell(1));
        Check.due("letter(2) stays", 'X', x.letter(2));
        Check.due("told", "zz.", Check.told(x, 0));
        longest();
    }

    /** A text of 3000 bytes that is told with a blank to nearly each. */
    private static void longest() {
        String text = "p:-" + "X<1;".repeat(299) + "a;".repeat(3) + "aaa" + ".";
        Used x = Check.reads(text);
        String want = "p :- " + "X < 1 ; ".repeat(299) + "a ; ".repeat(3) + "aaa.";
        Check.due("tell(0) of much", want.length(), x.tell(0));
        Check.due("told of much", want, Check.told(x, 0));
        text = ":- type t--->" + "a;".repeat(1492) + "a.";
        x = Check.reads(text);
        Check.due("tell(0) of many constructors", ":- type t ---> ".length() + 4 * 1492 + 2, x.tell(0));
        Check.due("part(0, 1492, 0)", 1, x.part(0, 1492, 0));
        Check.due("item(0, 2) of many constructors", 1493, x.item(0, 2));
        text = ":-pred t(" + "a,".repeat(1494) + "a).";
        x = Check.reads(text);
        Check.due("item(0, 2) of many names", 1495, x.item(0, 2));
        Check.due("part(0, 1494, 0)", 1, x.part(0, 1494, 0));
        Check.due("tell(0) of many names", ":- pred t(".length() + 3 * 1494 + 3, x.tell(0));
    }
}
