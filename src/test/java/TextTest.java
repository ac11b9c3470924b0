/** Promises 1 to 4: a new object, feed, end and read. */
public final class TextTest {
    public static void main(String[] args) {
        newObject();
        waitingBytes();
        refusedEnds();
        longestText();
        readTakesTheText();
        faultKeepsWhatWasRead();
        nothingIsLeftOfEarlierTexts();
        Check.finish();
    }

    private static void newObject() {
        Used x = new Used();
        Check.due("fault(0) of a new object", 0, x.fault(0));
        Check.due("fault(1) of a new object", -1, x.fault(1));
        for (int what = 0; what < 3; what++) {
            Check.due("count(" + what + ") of a new object", 0, x.count(what));
        }
        Check.due("item(0, 0) of a new object", -1, x.item(0, 0));
        Check.due("part(0, 0, 0) of a new object", -1, x.part(0, 0, 0));
        Check.due("node(0, 0) of a new object", -1, x.node(0, 0));
        Check.due("name(0, 0) of a new object", -1, x.name(0, 0));
        Check.due("find(0, 0) of a new object", -1, x.find(0, 0));
        Check.due("tell(0) of a new object", -1, x.tell(0));
        Check.due("letter(0) of a new object", -1, x.letter(0));
        Check.due("end(0) of a new object", 0, x.end(0));
        Check.due("read() of no text", 0, Check.read(x));
        Check.due("end(20) of a new object", 20, x.end(20));
        Check.due("read() of twenty zeros", Check.THROWN, Check.read(x));
        Check.due("fault(0) of twenty zeros", 1, x.fault(0));
        Check.due("fault(1) of twenty zeros", 0, x.fault(1));
    }

    private static int four(String letters) {
        int value = 0;
        for (int i = 0; i < 4; i++) {
            value = value << 8 | letters.charAt(i);
        }
        return value;
    }

    private static void waitingBytes() {
        Used x = new Used();
        x.feed(four("zzzz"), four("zzzz"), four("zzzz"), four("zzzz"), four("zzzz"));
        x.feed(four("abcd"), four("efgh"), four("ijkl"), four("mnop"), four(".xy."));
        Check.due("end(20)", 20, x.end(20));
        Check.due("read()", 2, Check.read(x));
        Check.due("name 0", "abcdefghijklmnop", Check.name(x, 0));
        Check.due("name 1", "xy", Check.name(x, 1));

        x.feed(four("ab.c"), four("de.f"), 0, 0, 0);
        Check.due("end(3)", 3, x.end(3));
        Check.due("end(1) of zeros", 4, x.end(1));
        Check.due("read() with a zero", Check.THROWN, Check.read(x));
        Check.due("fault(0) of a zero", 1, x.fault(0));
        Check.due("fault(1) of a zero", 3, x.fault(1));

        x.feed(four("ab.c"), 0, 0, 0, 0);
        Check.due("end(0)", 0, x.end(0));
        Check.due("end(3) of zeros", 3, x.end(3));
        Check.due("read() of zeros", Check.THROWN, Check.read(x));
        Check.due("fault(1) of zeros", 0, x.fault(1));

        x.feed(0xFFFFFFFF, 0x80808080, 0, 0, 0);
        Check.due("end(8) of high bytes", 8, x.end(8));
        Check.due("read() of high bytes", Check.THROWN, Check.read(x));
        Check.due("fault(0) of high bytes", 1, x.fault(0));

        x.feed(four("%abc"), 0x80FF0001, four("\nab."), 0, 0);
        Check.due("end(12)", 12, x.end(12));
        Check.due("read() with any bytes behind %", 1, Check.read(x));
        Check.due("item(0, 5)", 9, x.item(0, 5));
    }

    private static void refusedEnds() {
        Used x = new Used();
        x.feed(four("ab.c"), 0, 0, 0, 0);
        int[] refused = {21, -1, Integer.MAX_VALUE, Integer.MIN_VALUE, 24};
        for (int n : refused) {
            Check.due("end(" + n + ")", -1, x.end(n));
        }
        Check.due("end(3) behind refused ones", 3, x.end(3));
        Check.due("read() behind refused ones", 1, Check.read(x));
    }

    private static void longestText() {
        Used x = new Used();
        Check.due("2980 bytes", 2980, Check.put(x, " ".repeat(2980)));
        x.feed(four("   a"), four("b.cd"), four("e.fg"), 0, 0);
        Check.due("end(6)", 2986, x.end(6));
        x.feed(four("cd. "), four("    "), four("    "), four("    "), four("    "));
        Check.due("end(15)", -1, x.end(15));
        Check.due("end(20)", -1, x.end(20));
        Check.due("end(14)", 3000, x.end(14));
        Check.due("end(1) of a full text", -1, x.end(1));
        Check.due("end(0) of a full text", 3000, x.end(0));
        Check.due("read() of a full text", 2, Check.read(x));
        Check.due("item(0, 5) of a full text", 2983, x.item(0, 5));
        Check.due("item(1, 5) of a full text", 2986, x.item(1, 5));
        Check.due("end(20) behind read()", 20, x.end(20));
    }

    private static void readTakesTheText() {
        Used x = new Used();
        Check.due("read()", 2, Check.read(x, "a. b :- c."));
        Check.due("read() again", 0, Check.read(x));
        for (int what = 0; what < 3; what++) {
            Check.due("count(" + what + ") behind no text", 0, x.count(what));
        }
        Check.due("item(0, 0) behind no text", -1, x.item(0, 0));
        Check.due("read() of blanks", 0, Check.read(x, " \t\n % a. b.\n%"));
        Check.due("read() in parts", 1, readInParts(x));
        Check.due("name 0 in parts", "abc", Check.name(x, 0));
    }

    private static int readInParts(Used x) {
        Check.put(x, "a");
        Check.put(x, "b");
        return Check.read(x, "c.");
    }

    private static void faultKeepsWhatWasRead() {
        Used x = new Used();
        Check.due("read()", 2, Check.read(x, "p(X, 7) :- q. r."));
        String before = everything(x);
        Check.due("tell(0)", 13, x.tell(0));
        Check.due("read() of a fault", Check.THROWN, Check.read(x, "u(v). w(1, 2) :- X."));
        Check.due("what was read before a fault", before, everything(x));
        Check.due("letter(0) behind a fault", 'p', x.letter(0));
        Check.due("fault(0)", 4, x.fault(0));
        Check.due("end(0) behind a fault", 0, x.end(0));
        Check.due("read() behind a fault", 1, Check.read(x, "zz."));
        Check.due("fault(0) behind it", 0, x.fault(0));
        Check.due("fault(1) behind it", -1, x.fault(1));
        Check.due("name 0 behind it", "zz", Check.name(x, 0));
        Check.due("letter(12) stays", '.', x.letter(12));
        Check.due("letter(13) stays", -1, x.letter(13));
    }

    private static void nothingIsLeftOfEarlierTexts() {
        String small = "p(Y) :- q. :- type t ---> a(t) ; b.";
        String want = everything(Check.reads(small));
        Used x = new Used();
        String[] texts = {"s(t, u(V, W)) :- x = y, z. b. c. :- pred d(e, f, g).", "h(i, j(K, L)) :- m = n, o. q.",
            "a(b, c, d) :- e ; f, g. :- pred h(i, j). [", "k(l, m) :- n(o, P), Q = r. :- type s ---> t(u, v). w :-"};
        for (int i = 0; i < 4; i++) {
            for (int j = 0; j <= i; j++) {
                Check.read(x, texts[(i + j) % 4]);
            }
            Check.due("read() of a small text", 2, Check.read(x, small));
            Check.due("what is read behind others", want, everything(x));
        }
        // What was listed ahead of a fault takes no room.
        x = new Used();
        String many = ":- pred p(" + "a,".repeat(760) + "b).";
        Check.due("read() of many and a fault", Check.THROWN, Check.read(x, many + "["));
        Check.due("read() of many", 1, Check.read(x, many));
        Check.due("item(0, 2) of many", 761, x.item(0, 2));
        Check.due("part(0, 760, 0) of many", 2, x.part(0, 760, 0));
    }

    private static String everything(Used x) {
        StringBuilder out = new StringBuilder();
        for (int k = 0; k <= x.count(0); k++) {
            for (int what = 0; what < 6; what++) {
                out.append(x.item(k, what)).append(' ');
            }
        }
        for (int n = 0; n <= x.count(1); n++) {
            for (int what = 0; what < 7; what++) {
                out.append(x.node(n, what)).append(' ');
            }
        }
        for (int k = 0; k <= x.count(2); k++) {
            out.append(Check.name(x, k)).append(' ');
        }
        for (int k = 0; k < x.count(0); k++) {
            for (int i = 0; i <= x.item(k, 2); i++) {
                for (int what = 0; what < 5; what++) {
                    out.append(x.part(k, i, what)).append(' ');
                }
            }
        }
        return out.toString();
    }
}
