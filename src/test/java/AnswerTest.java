/** Promises 6 to 11: count, item, part, node, name and find. */
public final class AnswerTest {
    private static final int[] WILD = {-1, -2, Integer.MIN_VALUE, Integer.MAX_VALUE, Integer.MAX_VALUE - 3, 1000, 5000};

    private static final String TEXT = ":- type tree ---> leaf ; fork(tree, int, tree) ; one(int).\n"
            + ":- pred p(int, tree).\n"
            + ":- pred q.\n"
            + ":- mode p(in, out) is nondet.\n"
            + ":- mode q is multi.\n"
            + "p(X, f(Y, -3), _, 12) :- q, (r ; s), X = g(X).\n"
            + "q.\n"
            + "q :- true.\n";

    public static void main(String[] args) {
        counts();
        items();
        parts();
        ways();
        nodes();
        sorts();
        shapes();
        places();
        names();
        unnumbered();
        finds();
        wildNumbers();
        Check.finish();
    }

    private static void row(String call, int[] want, int[] got) {
        Check.due(call, java.util.Arrays.toString(want), java.util.Arrays.toString(got));
    }

    private static int[] item(Used x, int k) {
        int[] answers = new int[7];
        for (int what = 0; what < 7; what++) {
            answers[what] = x.item(k, what);
        }
        return answers;
    }

    private static int[] part(Used x, int k, int i, int whats) {
        int[] answers = new int[whats];
        for (int what = 0; what < whats; what++) {
            answers[what] = x.part(k, i, what);
        }
        return answers;
    }

    private static int[] node(Used x, int n, int whats) {
        int[] answers = new int[whats];
        for (int what = 0; what < whats; what++) {
            answers[what] = x.node(n, what);
        }
        return answers;
    }

    private static void counts() {
        Used x = Check.reads(TEXT);
        Check.due("count(0)", 8, x.count(0));
        Check.due("count(1)", 6 + 9 + 1, x.count(1));
        Check.due("count(2)", 13, x.count(2));
        Check.due("count(3)", -1, x.count(3));
        for (int what : WILD) {
            Check.due("count(" + what + ")", -1, x.count(what));
        }
    }

    private static void items() {
        Used x = Check.reads(TEXT);
        row("item 0", new int[] {0, 0, 3, -1, -1, 0, -1}, item(x, 0));
        row("item 1", new int[] {1, 5, 2, -1, -1, TEXT.indexOf(":- pred p"), -1}, item(x, 1));
        row("item 2", new int[] {1, 6, 0, -1, -1, TEXT.indexOf(":- pred q"), -1}, item(x, 2));
        row("item 3", new int[] {2, 5, 2, 3, -1, TEXT.indexOf(":- mode p"), -1}, item(x, 3));
        row("item 4", new int[] {2, 6, 0, 2, -1, TEXT.indexOf(":- mode q"), -1}, item(x, 4));
        row("item 5", new int[] {3, 5, 4, -1, 6, TEXT.indexOf("p(X"), -1}, item(x, 5));
        row("item 6", new int[] {3, 6, 0, -1, -1, TEXT.indexOf("q.\nq"), -1}, item(x, 6));
        row("item 7", new int[] {3, 6, 0, -1, 15, TEXT.indexOf("q :-"), -1}, item(x, 7));
        row("item 8", new int[] {-1, -1, -1, -1, -1, -1, -1}, item(x, 8));
        row("item -1", new int[] {-1, -1, -1, -1, -1, -1, -1}, item(x, -1));
    }

    private static void parts() {
        Used x = Check.reads(TEXT);
        row("part 0 of a type", new int[] {1, 0, -1, -1}, part(x, 0, 0, 4));
        row("part 1 of a type", new int[] {2, 3, 0, 3, 0, -1, -1}, part(x, 0, 1, 7));
        row("part 2 of a type", new int[] {4, 1, 3, -1, -1}, part(x, 0, 2, 5));
        row("part 3 of a type", new int[] {-1, -1, -1}, part(x, 0, 3, 3));
        row("part 0 of a pred", new int[] {3, -1, -1}, part(x, 1, 0, 3));
        row("part 1 of a pred", new int[] {0, -1, -1}, part(x, 1, 1, 3));
        row("part 2 of a pred", new int[] {-1, -1, -1}, part(x, 1, 2, 3));
        row("part 0 of an empty pred", new int[] {-1, -1, -1}, part(x, 2, 0, 3));
        row("part 0 of a mode", new int[] {0, -1, -1}, part(x, 3, 0, 3));
        row("part 1 of a mode", new int[] {1, -1, -1}, part(x, 3, 1, 3));
        row("part 2 of a mode", new int[] {-1, -1, -1}, part(x, 3, 2, 3));
        row("part 0 of a clause", new int[] {0, -1, -1}, part(x, 5, 0, 3));
        row("part 1 of a clause", new int[] {1, -1, -1}, part(x, 5, 1, 3));
        row("part 2 of a clause", new int[] {4, -1, -1}, part(x, 5, 2, 3));
        row("part 3 of a clause", new int[] {5, -1, -1}, part(x, 5, 3, 3));
        row("part 4 of a clause", new int[] {-1, -1, -1}, part(x, 5, 4, 3));
        row("part 0 of a clause without terms", new int[] {-1, -1, -1}, part(x, 7, 0, 3));
        row("part -1 of a type", new int[] {-1, -1, -1}, part(x, 0, -1, 3));
        Check.due("part(0, 1, -1)", -1, x.part(0, 1, -1));
        Check.due("part(8, 0, 0)", -1, x.part(8, 0, 0));
        Check.due("part(-1, 0, 0)", -1, x.part(-1, 0, 0));
    }

    private static void ways() {
        Used x = Check.reads(":- mode a is det. :- mode a(out)is semidet. :- mode a(in,in,out) is multi. :- mode a is nondet.");
        for (int k = 0; k < 4; k++) {
            Check.due("item(" + k + ", 3)", k, x.item(k, 3));
        }
        Check.due("item(2, 2)", 3, x.item(2, 2));
        Check.due("part(1, 0, 0)", 1, x.part(1, 0, 0));
        Check.due("part(2, 2, 0)", 1, x.part(2, 2, 0));
        Check.due("count(2)", 1, x.count(2));
    }

    private static void nodes() {
        Used x = Check.reads(TEXT);
        row("node 0, X", new int[] {0, 7, 0, TEXT.indexOf("X,"), -1}, node(x, 0, 5));
        row("node 1, f", new int[] {2, 8, 2, TEXT.indexOf("f(Y"), 2, 3, -1}, node(x, 1, 7));
        row("node 2, Y", new int[] {0, 9, 0, TEXT.indexOf("Y,"), -1}, node(x, 2, 5));
        row("node 3, -3", new int[] {1, -3, 0, TEXT.indexOf("-3"), -1}, node(x, 3, 5));
        row("node 4, _", new int[] {0, -1, 0, TEXT.indexOf("_"), -1}, node(x, 4, 5));
        row("node 5, 12", new int[] {1, 12, 0, TEXT.indexOf("12"), -1}, node(x, 5, 5));
        row("node 6, a row", new int[] {23, 0, 3, TEXT.indexOf(", (r"), 7, 8, 11, -1, -1}, node(x, 6, 9));
        row("node 7, q", new int[] {21, 6, 0, TEXT.indexOf("q, (r"), -1}, node(x, 7, 5));
        row("node 8, a choice", new int[] {24, 0, 2, TEXT.indexOf("; s"), 9, 10, -1}, node(x, 8, 7));
        row("node 11, =", new int[] {12, 0, 2, TEXT.indexOf("= g"), 12, 13, -1}, node(x, 11, 7));
        row("node 13, g", new int[] {2, 12, 1, TEXT.indexOf("g(X"), 14, -1}, node(x, 13, 6));
    }

    private static void sorts() {
        String[] signs = {"=", "\\=", "is", "<", "=<", ">", ">=", "=:=", "=\\="};
        for (int i = 0; i < signs.length; i++) {
            Used x = Check.reads("p :- X " + signs[i] + " 5.");
            row("the node of " + signs[i], new int[] {12 + i, 0, 2, 7, 1, 2, -1}, node(x, 0, 7));
        }
        String[] operators = {"+", "-", "*", "//", "mod"};
        for (int i = 0; i < operators.length; i++) {
            Used x = Check.reads("p :- X is 4 " + operators[i] + " 5.");
            row("the node of " + operators[i], new int[] {3 + i, 0, 2, 12, 3, 4, -1}, node(x, 2, 7));
        }
        Used x = Check.reads("p :- true. p :- fail. p :- q(1). p :- not q. p :- a -> b ; c.");
        row("true", new int[] {10, 0, 0, 5, -1}, node(x, 0, 5));
        row("fail", new int[] {11, 0, 0, 16, -1}, node(x, 1, 5));
        row("a call", new int[] {21, 1, 1, 27, 3, -1}, node(x, 2, 6));
        row("not", new int[] {22, 0, 1, 38, 5, -1}, node(x, 4, 6));
        row("a test", new int[] {25, 0, 3, 52, 7, 8, 9, -1}, node(x, 6, 8));
        x = Check.reads("p :- f(1) = f(2), f(3) < g + 1, h.");
        Check.due("a term ahead of =", 2, x.node(2, 0));
        Check.due("a term behind =", 2, x.node(4, 0));
        Check.due("a term ahead of <", 2, x.node(7, 0));
        Check.due("a term ahead of +", 2, x.node(10, 0));
        Check.due("a call behind them", 21, x.node(12, 0));
    }

    private static void shape(String goal, String want) {
        Used x = Check.reads("p :- " + goal + ".");
        Check.due("the shape of " + goal, want, Check.shape(x, x.item(0, 4)));
    }

    private static void shapes() {
        shape("a ; b ; c", "24(21 21 21)");
        shape("a ; (b ; c)", "24(21 24(21 21))");
        shape("(a ; b) ; c", "24(24(21 21) 21)");
        shape("((a ; b ; c))", "24(21 21 21)");
        shape("a, b, c", "23(21 21 21)");
        shape("a, (b, c)", "23(21 23(21 21))");
        shape("(a, b), c", "23(23(21 21) 21)");
        shape("(a), ((b))", "23(21 21)");
        shape("a, b ; c, d ; true", "24(23(21 21) 23(21 21) 10)");
        shape("a -> b ; c", "25(21 21 21)");
        shape("a -> b ; c ; d", "25(21 21 24(21 21))");
        shape("a -> b ; (c ; d)", "25(21 21 24(21 21))");
        shape("a ; b -> c ; d", "24(21 25(21 21 21))");
        shape("a ; b ; c -> d ; fail ; true", "24(21 21 25(21 21 24(11 10)))");
        shape("a ; (b -> c ; d) ; e", "24(21 25(21 21 21) 21)");
        shape("a -> b ; c -> d ; e", "25(21 21 25(21 21 21))");
        shape("a, b -> c, d ; true, e", "25(23(21 21) 23(21 21) 23(10 21))");
        shape("(a -> b ; c) -> (d ; e) ; f", "25(25(21 21 21) 24(21 21) 21)");
        shape("not a, b", "23(22(21) 21)");
        shape("not (a, b)", "22(23(21 21))");
        shape("not not X = 1", "22(22(12(0 1)))");
        shape("not a -> b ; c", "25(22(21) 21 21)");
        shape("X is 1 + 2 + 3", "14(0 3(3(1 1) 1))");
        shape("X is 1 - 2 + 3", "14(0 3(4(1 1) 1))");
        shape("X is 1 + (2 + 3)", "14(0 3(1 3(1 1)))");
        shape("X is 1 + 2 * 3", "14(0 3(1 5(1 1)))");
        shape("X is 1 * 2 + 3", "14(0 3(5(1 1) 1))");
        shape("X is (1 + 2) * 3", "14(0 5(3(1 1) 1))");
        shape("X is 1 * 2 // 3 mod 4", "14(0 7(6(5(1 1) 1) 1))");
        shape("X is 1 - 2 * 3 - 4 mod 5", "14(0 4(4(1 5(1 1)) 7(1 1)))");
        shape("X is 1-1", "14(0 4(1 1))");
        shape("X is 1 - -1", "14(0 4(1 1))");
        shape("X is -1 - 1", "14(0 4(1 1))");
        shape("X is f(Y, -1) + c", "14(0 3(2(0 1) 2))");
        shape("1 * 2 + a(b) < (3 - X) * 4", "15(3(5(1 1) 2(2)) 5(4(1 0) 1))");
        shape("-1 =:= 2", "19(1 1)");
        shape("- 1 = f", "12(1 2)");
    }

    private static void places() {
        Used x = Check.reads("p :- a , b , c ; d ; e -> f ; g ; h.");
        Check.due("a choice, at its first ;", 15, x.node(0, 3));
        Check.due("a row, at its first ,", 7, x.node(1, 3));
        Check.due("a test, at ->", 23, x.node(6, 3));
        Check.due("a choice in a test, at its own first ;", 32, x.node(9, 3));
        x = Check.reads("p :- X + 1 - 2 =\\= - % n\n 3.");
        Check.due("=\\=", 15, x.node(0, 3));
        Check.due("-, the outer one", 11, x.node(1, 3));
        Check.due("+, the inner one", 7, x.node(2, 3));
        Check.due("a NUMBER, at its -", 19, x.node(6, 3));
        Check.due("its value", -3, x.node(6, 1));
        x = Check.reads("p :- ((a)), f ( b ).");
        Check.due("a, within ( )", 7, x.node(1, 3));
        Check.due("f, at its first word", 12, x.node(2, 3));
        Check.due("b", 16, x.node(3, 3));
    }

    private static void names() {
        Used x = Check.reads(TEXT);
        String[] want = {"tree", "leaf", "fork", "int", "one", "p", "q", "X", "f", "Y", "r", "s", "g"};
        for (int k = 0; k < want.length; k++) {
            Check.due("name " + k, want[k], Check.name(x, k));
            Check.due("find of " + want[k], k, Check.find(x, want[k]));
            Check.due("name(" + k + ", -1)", -1, x.name(k, -1));
            Check.due("name(" + k + ", its length)", -1, x.name(k, want[k].length()));
        }
        Check.due("name(13, 0)", -1, x.name(13, 0));
        Check.due("name(-1, 0)", -1, x.name(-1, 0));
        x = Check.reads("abcdefghijklmnop(A_b9, z, _Z).");
        Check.due("name(0, 7)", 'h', x.name(0, 7));
        Check.due("name(0, 8)", 'i', x.name(0, 8));
        Check.due("name(0, 15)", 'p', x.name(0, 15));
        Check.due("name(0, 16)", -1, x.name(0, 16));
        Check.due("name 1", "A_b9", Check.name(x, 1));
        Check.due("name 3", "_Z", Check.name(x, 3));
    }

    private static void unnumbered() {
        Used x = Check.reads(":- type type ---> type(in, out) ; is_ ; nott. :- pred pred(mode). :- mode mode(in) is det.\n"
                + "det(In, Is, _, __) :- semidet, in = Not, true, not mode, X is 1 mod 2.");
        String[] want = {"type", "in", "out", "is_", "nott", "pred", "mode", "det", "In", "Is", "__", "semidet", "Not", "X"};
        Check.due("count(2)", want.length, x.count(2));
        for (int k = 0; k < want.length; k++) {
            Check.due("name " + k, want[k], Check.name(x, k));
        }
        Check.due("find of is", -1, Check.find(x, "is"));
        Check.due("find of true", -1, Check.find(x, "true"));
        Check.due("find of _", -1, Check.find(x, "_"));
        Check.due("the node of _", -1, x.node(2, 1));
        Check.due("the node of __", 10, x.node(3, 1));
    }

    private static void finds() {
        Used x = Check.reads("abcdefghijklmnop(abcdefgh, b, ijklmnop, ab, ba).");
        Check.due("sixteen bytes", 0, x.find(0x6162636465666768L, 0x696A6B6C6D6E6F70L));
        Check.due("eight bytes in first", 1, x.find(0x6162636465666768L, 0));
        Check.due("eight bytes in second", 1, x.find(0, 0x6162636465666768L));
        Check.due("eight bytes in both", 1, x.find(0x0061620000636400L, 0x6500006600670068L));
        Check.due("the second eight", 3, x.find(0, 0x696A6B6C6D6E6F70L));
        Check.due("one byte", 2, x.find(0x62, 0));
        Check.due("one byte, highest", 2, x.find(0x62L << 56, 0));
        Check.due("two bytes, one in each", 4, x.find(0x61, 0x62));
        Check.due("two bytes with zeros between", 5, x.find(0x6200000000000061L, 0));
        Check.due("no byte", -1, x.find(0, 0));
        Check.due("a beginning", -1, x.find(0x6162636465666700L, 0));
        Check.due("too much", -1, x.find(0x6162636465666768L, 0x69));
        Check.due("high bytes", -1, x.find(-1L, -1L));
        Check.due("a high byte ahead", -1, x.find(0x80000000000000E2L, 0x62));
    }

    private static void wildNumbers() {
        Used x = Check.reads(TEXT);
        for (int wild : WILD) {
            Check.due("item(" + wild + ", 0)", -1, x.item(wild, 0));
            Check.due("item(0, " + wild + ")", -1, x.item(0, wild));
            Check.due("part(" + wild + ", 0, 0)", -1, x.part(wild, 0, 0));
            Check.due("part(0, " + wild + ", 0)", -1, x.part(0, wild, 0));
            Check.due("part(0, 1, " + wild + ")", -1, x.part(0, 1, wild));
            Check.due("part(1, 1, " + wild + ")", -1, x.part(1, 1, wild));
            Check.due("part(3, 1, " + wild + ")", -1, x.part(3, 1, wild));
            Check.due("part(5, 1, " + wild + ")", -1, x.part(5, 1, wild));
            Check.due("node(" + wild + ", 0)", -1, x.node(wild, 0));
            Check.due("node(1, " + wild + ")", -1, x.node(1, wild));
            Check.due("name(" + wild + ", 0)", -1, x.name(wild, 0));
            Check.due("name(0, " + wild + ")", -1, x.name(0, wild));
            Check.due("tell(" + wild + ")", -1, x.tell(wild));
            Check.due("letter(" + wild + ")", -1, x.letter(wild));
        }
    }
}
