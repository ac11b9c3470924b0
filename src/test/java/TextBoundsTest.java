/**
 * The boundary cases of the document's "What it is" and of its sentences on THE TEXT, BLANKS and WORDS.
 * Each method has the sentence that it tests above it. An @ marks the place of a fault and is no part of
 * the text.
 */
public final class TextBoundsTest {
    private static final String[] KEPT = {"not", "true", "fail", "is", "mod"};

    public static void main(String[] args) {
        mostCalls();
        mostBytes();
        bytesWait();
        blanks();
        remarks();
        blanksBetweenAnyTwo();
        blanksNotNeeded();
        longestSigns();
        longestNames();
        firstBytes();
        laterBytes();
        lengthsOfNames();
        numbers();
        anonymous();
        keptNames();
        nearlyKeptNames();
        Check.finish();
    }

    /** "An object is used for at most 512 calls after it has been made": so the 512th holds as any other. */
    private static void mostCalls() {
        Used x = new Used();
        Check.put(x, "p(" + "a,".repeat(1000) + "b) :- q.");
        Check.due("read()", 1, Check.read(x));
        while (x.calls() < Used.MOST_CALLS - 4) {
            Check.due("item(0, 2)", 1001, x.item(0, 2));
        }
        Check.due("the 509th call, part(0, 1000, 0)", 1000, x.part(0, 1000, 0));
        Check.due("the 510th call, tell(0)", 2 + 3 * 1001 + " :- q.".length() - 1, x.tell(0));
        Check.due("the 511th call, letter", '.', x.letter(3009));
        Check.due("the 512th call, letter", -1, x.letter(3010));
        Check.due("calls", 512, x.calls());

        x = new Used();
        while (x.calls() < Used.MOST_CALLS - 3) {
            Check.due("count(0)", 0, x.count(0));
        }
        x.feed(0x702E0000, 0, 0, 0, 0);
        Check.due("the 511th call, end(2)", 2, x.end(2));
        Check.due("the 512th call, read()", 1, x.read());

        x = new Used();
        x.feed(0x702E0000, 0, 0, 0, 0);
        Check.due("end(2)", 2, x.end(2));
        while (x.calls() < Used.MOST_CALLS) {
            Check.due("read(), again and again", x.calls() == 2 ? 1 : 0, x.read());
        }
    }

    /** "THE TEXT has at most 3000 bytes." */
    private static void mostBytes() {
        Used x = new Used();
        Check.due("2999 bytes", 2999, Check.put(x, " ".repeat(2997) + "p."));
        Check.due("a 3000th", 3000, Check.put(x, "q"));
        Check.due("a 3001st", -1, Check.put(x, "."));
        Check.due("read() of 3000", Check.THROWN, Check.read(x));
        Check.due("its fault", 4, x.fault(0));
        Check.due("its place", 3000, x.fault(1));
        x = new Used();
        Check.due("3000 bytes", 3000, Check.put(x, " ".repeat(2998) + "p."));
        Check.due("a 3001st behind them", -1, Check.put(x, "["));
        Check.due("read() of the 3000", 1, Check.read(x));
        Check.due("the place of p", 2998, x.item(0, 5));
        Check.faulty(" ".repeat(2999) + "[", 1, 2999);
        Check.due("3000 bytes of blanks", 0, Check.reads("%" + " ".repeat(2998) + "\n").count(0));
        Check.faulty("p".repeat(3000), 2, 0);
        Check.faulty(" ".repeat(2999) + "p", 4, 3000);
    }

    /** "Bytes fed wait, twenty at a time, until end() puts so many of them behind the TEXT; read() takes it." */
    private static void bytesWait() {
        Used x = new Used();
        x.feed(0x702E712E, 0x722E0000, 0, 0, 0);
        Check.due("read() while bytes wait", 0, Check.read(x));
        Check.due("end(4), of what still waits", 4, x.end(4));
        Check.due("read()", 2, Check.read(x));
        Check.due("end(0)", 0, x.end(0));
        x.feed(0x5B5B5B5B, 0, 0, 0, 0);
        Check.due("end(1)", 1, x.end(1));
        x.feed(0x702E712E, 0x722E0000, 0, 0, 0);
        Check.due("read() of a fault while bytes wait", Check.THROWN, Check.read(x));
        Check.due("end(6), of what still waits", 6, x.end(6));
        Check.due("read() of three", 3, Check.read(x));
    }

    private static boolean isWordByte(int b) {
        return Character.isLetterOrDigit(b) && b < 128 || b == '_';
    }

    private static boolean isSign(int b) {
        return "(),.;=+-*<>".indexOf(b) >= 0;
    }

    /** "BLANKS are 32, 9, 10": and no other byte. */
    private static void blanks() {
        for (int b = 0; b < 256; b++) {
            String text = "p" + (char) b + ".";
            if (b == 32 || b == 9 || b == 10) {
                Check.due("name of " + b, "p", Check.name(Check.reads(text), 0));
            } else if (isWordByte(b)) {
                Check.due("name of " + b, "p" + (char) b, Check.name(Check.reads(text), 0));
            } else if (b == '%') {
                Check.faulty(text, 4, 3);
            } else {
                Check.faulty(text, isSign(b) ? 4 : 1, b == '(' || b == '.' ? 2 : 1);
            }
        }
        Check.due("a text of blanks", 0, Check.reads(" \t\n\n\t ").count(0));
    }

    /** "and a % with all up to the next byte 10 or the TEXT's end" */
    private static void remarks() {
        for (int b = 0; b < 256; b++) {
            String text = "%" + (char) b + "[\np.";
            if (b == 10) {
                Check.faulty(text, 1, 2);
            } else {
                Check.due("the place behind % and " + b, 4, Check.reads(text).item(0, 5));
            }
        }
        String[] empty = {"%", "%\n", "%%", "% [", "%[\n", "\n%", "%\n%", "% p.", "%\r[", "% %\n%"};
        for (String text : empty) {
            Check.due("items of " + text, 0, Check.reads(text).count(0));
        }
        Check.due("% up to the end", 1, Check.reads("p.%q.").count(0));
        Check.due("% up to a 10", 2, Check.reads("p.%q.\nr.").count(0));
        Check.due("a % in another", 2, Check.reads("p.%q.%[\nr.").count(0));
        Check.due("% ahead of .", 1, Check.reads("p%.\n.").count(0));
        Check.faultyAt("p%.@", 4);
        Check.faultyAt("p%.\n@", 4);
        Check.faultyAt("p%.\n  @q.", 4);
        Check.faultyAt("a%\n@b.", 4);
    }

    private static final String[] WORDS = {":-", "type", "t", "--->", "a", ";", "b", "(", "t", ",", "int", ")", ".",
        ":-", "pred", "p", "(", "t", ",", "int", ")", ".", ":-", "mode", "p", "(", "in", ",", "out", ")", "is",
        "semidet", ".", "p", "(", "X", ",", "b", "(", "-", "1", ",", "_", ")", ")", ":-", "q", "(", "X", ")", ",",
        "not", "r", ";", "X", "=", "1", "->", "true", ";", "fail", ";", "(", "a", ";", "b", ")", ",", "X", "\\=", "a",
        ";", "X", "is", "1", "+", "2", "-", "3", "*", "4", "//", "5", "mod", "6", ".", "p", ":-", "1", "<", "2", ",",
        "1", "=<", "2", ",", "1", ">", "2", ",", "1", ">=", "-", "2", ",", "1", "=:=", "2", ",", "1", "=\\=", "2", ".",
        "q", "."};

    /** "they may stand between any two WORDS": what is read is the same, its places aside. */
    private static void blanksBetweenAnyTwo() {
        String want = Check.all(Check.reads(String.join(" ", WORDS)));
        String[] between = {"\t", "\n", "  ", "%\n", "%x. [\n", " % a\n\t% b\n "};
        for (String blanks : between) {
            String text = blanks + String.join(blanks, WORDS) + blanks;
            Check.due("what is read of " + text, want, Check.all(Check.reads(text)));
        }
    }

    /** "and need not where two would not be one" */
    private static void blanksNotNeeded() {
        String want = Check.all(Check.reads(String.join(" ", WORDS)));
        StringBuilder text = new StringBuilder();
        String before = ".";
        for (String word : WORDS) {
            boolean one = isWordByte(word.charAt(0)) && isWordByte(before.charAt(0)) && !before.matches("[0-9]+");
            text.append(one ? " " : "").append(word);
            before = word;
        }
        Check.due("what is read of " + text, want, Check.all(Check.reads(text.toString())));
        Check.due("1mod 2", 7, Check.reads("p:-X is 1mod 2.").node(2, 0));
        Check.due("1.q", 2, Check.reads("p:-X=1.q.").count(0));
        Check.faultyAt("p(1@a).", 4);
        Check.faultyAt("p(1@_).", 4);
        Check.faultyAt("p(1@X).", 4);
        Check.faultyAt("p:-X is 1@mod2.", 4);
        Check.faultyAt("p:-X is 1 @mod2.", 4);
        Check.faultyAt("p:-X @isY.", 4);
        Check.due("nota is one NAME", "nota", Check.name(Check.reads("p:-nota."), 1));
    }

    /** "WORDS, each as long as can be. SIGNS: ( ) , . ; = + - * // :- -> ---> \= < =< > >= =:= =\= ." */
    private static void longestSigns() {
        String[] goals = {"X=1", "X\\=1", "X<1", "X=<1", "X>1", "X>=1", "X=:=1", "X=\\=1"};
        int[] sorts = {12, 13, 15, 16, 17, 18, 19, 20};
        for (int i = 0; i < goals.length; i++) {
            Check.due("the sort of " + goals[i], sorts[i], Check.reads("p:-" + goals[i] + ".").node(0, 0));
            Check.due("the sort behind -", sorts[i], Check.reads("p:-" + goals[i].replace("1", "-1") + ".").node(0, 0));
        }
        // What is not as long as that is two WORDS, or none.
        String[] misplaced = {"p:-X= @<1.", "p:-X> @=1.", "p:-a- @>b;c.", "p:-X<@=1.", "p:-X=@=1.", "p:-X=@>1.",
            "p:-X=@=:=1.", "p:-X=<@=1.", "p:-X>=@=1.", "p:-X\\=@=1.", "p:-X= @\\=1.", "p:-X=:=@=1.", "p:-X=@:-1.",
            "p:-X=@->1.", "p:-X>@->1.", "p:-X<@>1.", "p:-X-@->1.", ":-type t@-->a.", ":-type t@->a.",
            ":-type t@---->a.", ":-type t--->@>a.", "p:-X is 1*@*2.", "p:-X is 1//@//2.", "p:-X is 1+@+2.", "p@--->q.",
            "p:-@:-q.", "p:-X@--->1.", "p.@.", "p:-q;@;r.", "p(a,@,b).", "p:-(@)."};
        for (String text : misplaced) {
            Check.faultyAt(text, 4);
        }
        String[] strange = {"p:-X is 1@/2.", "p:-X is 1@/ /2.", "p:-X is 1//@/2.", "p@: -q.", "p@:q.", "p@:", "p:-@:",
            "p:-X@\\1.", "p:-X@\\ =1.", "p:-X=@\\1.", "p:-X=@\\ =1.", "p:-X=@:1.", "p:-X=@: =1.", "p:-X=@:", "p:-X=@\\",
            "p:-X@/", "p:-X@\\", "p:-X@:=1.", "p:-X=:=@:1."};
        for (String text : strange) {
            Check.faultyAt(text, 1);
        }
        Check.due("1--1", 4, Check.reads("p:-X is 1--1.").node(2, 0));
        Check.due("1- -1", 4, Check.reads("p:-X is 1- -1.").node(2, 0));
        // Nearly a ---> , byte by byte.
        Check.due("1--2>3", 17, Check.reads("p:-1--2>3.").node(0, 0));
        Check.due("1--2>=3", 18, Check.reads("p:-1--2>=3.").node(0, 0));
        Check.due("1-2>3", 17, Check.reads("p:-1-2>3.").node(0, 0));
        Check.due("-1->", 25, Check.reads("p:-X= -1->a;b.").node(0, 0));
        Check.due("1-X", 4, Check.reads("p:-1-X>2.").node(1, 0));
        Check.faultyAt("p:-X is 1--@-1.", 4);
        Check.faultyAt("p:-X is 1@--->1.", 4);
    }

    /** "WORDS, each as long as can be": NAMES, VARIABLES and NUMBERS. */
    private static void longestNames() {
        Used x = Check.reads("ab1_Z(Ab1_z,_9,12345).");
        Check.due("name 0", "ab1_Z", Check.name(x, 0));
        Check.due("name 1", "Ab1_z", Check.name(x, 1));
        Check.due("name 2", "_9", Check.name(x, 2));
        Check.due("the number", 12345, x.node(2, 1));
        Check.faultyAt("a @b.", 4);
        Check.faultyAt("p(A @b).", 4);
        Check.faultyAt("p(1 @2).", 4);
    }

    /** "NAMES: a .. z, then ..; VARIABLES: A .. Z or _ , then ..; NUMBERS: digits": by their first byte. */
    private static void firstBytes() {
        for (int b = 0; b < 256; b++) {
            String text = "p(" + (char) b + ").";
            if (isWordByte(b)) {
                Used x = Check.reads(text);
                int sort = b >= 'a' ? 2 : b <= '9' ? 1 : 0;
                Check.due("the sort of " + text, b == '_' ? 0 : sort, x.node(0, 0));
                int value = b == '_' ? -1 : b <= '9' ? b - '0' : b == 'p' ? 0 : 1;
                Check.due("the value of " + text, value, x.node(0, 1));
            } else if (b == '%') {
                Check.faulty(text, 4, 5);
            } else {
                boolean begins = isSign(b) || b == 32 || b == 9 || b == 10;
                Check.faulty(text, begins ? 4 : 1, b == '-' || b == 32 || b == 9 || b == 10 ? 3 : 2);
            }
        }
    }

    /** "then letters, digits, _": each of them, and no other byte. */
    private static void laterBytes() {
        String[] begun = {"a", "Z", "_"};
        for (String first : begun) {
            for (int b = 0; b < 256; b++) {
                String text = "p(" + first + (char) b + ").";
                if (isWordByte(b)) {
                    Check.due("name 1 of " + text, first + (char) b, Check.name(Check.reads(text), 1));
                } else if (b == 32 || b == 9 || b == 10) {
                    Check.due("nodes of " + text, 1, Check.reads(text).count(1));
                } else if (b == '%') {
                    Check.faulty(text, 4, 6);
                } else {
                    // Behind a , a ) or the ( of a list the ) can't stand.
                    boolean passes = b == ',' || b == ')' || b == '(' && first.equals("a");
                    Check.faulty(text, isSign(b) ? 4 : 1, passes ? 4 : 3);
                }
            }
        }
    }

    /** "both 1 to 16 bytes" */
    private static void lengthsOfNames() {
        String letters = "bcdefghijklmnopqrstuvwxyz";
        for (int n = 1; n <= 20; n++) {
            String rest = letters.substring(0, n - 1);
            String[] names = {"a" + rest, "A" + rest, "_" + rest, "x" + "_".repeat(n - 1), "Y" + "9".repeat(n - 1)};
            for (String name : names) {
                if (n > 16) {
                    Check.faulty("p(" + name + ").", 2, 2);
                } else if (!name.equals("_")) {
                    Used x = Check.reads("p(" + name + ").");
                    Check.due("name 1", name, Check.name(x, 1));
                    Check.due("find of " + name, 1, Check.find(x, name));
                }
            }
        }
        Check.faulty("p(" + "a".repeat(2990) + ").", 2, 2);
        Check.faulty("p(" + "_".repeat(2990) + ").", 2, 2);
        // Two that are alike in sixteen bytes but one are two.
        Used x = Check.reads("abcdefghijklmnop(abcdefghijklmnoq, abcdefghijklmno, bbcdefghijklmnop).");
        Check.due("count(2)", 4, x.count(2));
    }

    /** "NUMBERS: digits." */
    private static void numbers() {
        String[] texts = {"0", "9", "00", "007", "10", "99", "1234567890", "2147483647", "0".repeat(2990),
            "0".repeat(2980) + "2147483647"};
        int[] values = {0, 9, 0, 7, 10, 99, 1234567890, 2147483647, 0, 2147483647};
        for (int i = 0; i < texts.length; i++) {
            Used x = Check.reads("p(" + texts[i] + ").");
            Check.due("the value of " + texts[i], values[i], x.node(0, 1));
            Check.due("nodes of " + texts[i], 1, x.count(1));
            x = Check.reads("p(-" + texts[i] + ").");
            Check.due("the value of -" + texts[i], -values[i], x.node(0, 1));
            Check.due("the place of -" + texts[i], 2, x.node(0, 3));
        }
        Check.faultyAt("p(1@.5).", 4);
        Check.faultyAt("p(0@x).", 4);
    }

    /** "(_ alone is ANONYMOUS)" */
    private static void anonymous() {
        Used x = Check.reads("p(_, __, _a, _1, _).");
        int[] values = {-1, 1, 2, 3, -1};
        for (int n = 0; n < 5; n++) {
            Check.due("node(" + n + ", 0)", 0, x.node(n, 0));
            Check.due("node(" + n + ", 1)", values[n], x.node(n, 1));
        }
        Check.due("count(2)", 4, x.count(2));
        Check.due("find of _", -1, Check.find(x, "_"));
        Check.due("find of __", 1, Check.find(x, "__"));
    }

    /** "KEPT NAMES are not, true, fail, is, mod: they are no NAMES below." */
    private static void keptNames() {
        String[] places = {"@#.", "@#(a).", ":- @# a ---> b.", ":- type @# ---> a.", ":- type a ---> @#.",
            ":- type a ---> b ; @#.", ":- type a ---> b(@#).", ":- type a ---> b(c, @#).", ":- pred @#.",
            ":- pred p(@#).", ":- pred p(a, @#).", ":- mode @# is det.", ":- mode p(@#) is det.", ":- mode p is @#.",
            "p(@#).", "p(a, @#).", "p(a(@#)).", "p :- q(@#).", "p :- X = @#.", "p :- X is @#.", "p :- X < @#.",
            "p :- X + @# < 1.", "p :- X = a(@#)."};
        for (String kept : KEPT) {
            for (String place : places) {
                Check.faultyAt(place.replace("#", kept), 4);
            }
        }
        Check.faultyAt("p :- true@(a).", 4);
        Check.faultyAt("p :- fail@(a).", 4);
        Check.faultyAt("p :- @is(a).", 4);
        Check.faultyAt("p :- @mod(a).", 4);
        Check.due("not(a) is no CALL", 22, Check.reads("p :- not(a).").node(0, 0));
    }

    /** What differs from a KEPT NAME by a byte is a NAME or VARIABLE like others. */
    private static void nearlyKeptNames() {
        for (String kept : KEPT) {
            String[] names = {kept + "s", kept + "_", kept + "0", "x" + kept, kept.substring(0, kept.length() - 1),
                kept + kept};
            for (String name : names) {
                Used x = Check.reads(name + "(" + name + ") :- " + name + ", " + name + "(1).");
                Check.due("name 0", name, Check.name(x, 0));
                Check.due("names of " + name, 1, x.count(2));
                Check.due("sort of the goal " + name, 21, x.node(2, 0));
            }
            String big = kept.substring(0, 1).toUpperCase() + kept.substring(1);
            Check.due("the sort of " + big, 0, Check.reads("p(" + big + ").").node(0, 0));
            Check.due("the sort of _" + kept, 0, Check.reads("p(_" + kept + ").").node(0, 0));
        }
    }
}
