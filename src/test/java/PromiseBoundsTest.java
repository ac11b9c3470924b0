/** The boundary cases that the promises themselves name. Each method has the sentence that it tests above it. */
public final class PromiseBoundsTest {
    private static final int[] WILD = {-1, -2, -3, -4, -5, -100, Integer.MIN_VALUE, Integer.MIN_VALUE + 1,
        Integer.MIN_VALUE + 3, Integer.MIN_VALUE + 4, Integer.MIN_VALUE + 5, Integer.MAX_VALUE, Integer.MAX_VALUE - 1,
        Integer.MAX_VALUE - 4, 1 << 8, 1 << 16, 1 << 24, 1 << 30, -256, -65536, 3000, 6000};

    public static void main(String[] args) {
        newObject();
        highestFirst();
        inThePlaceOfThoseThatWaited();
        zerosAtFirst();
        zerosBehindEnd();
        howManyEnded();
        endRefusedByItsNumber();
        endRefusedByTheText();
        refusedEndChangesNothing();
        emptyInAnyCase();
        howManyItems();
        aFaultThrows();
        whatWasReadStays();
        eachReadAnew();
        faultOfTheLatestRead();
        faultForAnotherWhat();
        counts();
        items();
        itemsOfAnotherSort();
        noSuchItem();
        parts();
        noSuchPart();
        nodes();
        noSuchNode();
        valueOfMinusOne();
        names();
        finds();
        zerosLeftOut();
        noneHasIt();
        tells();
        outStays();
        letters();
        Check.finish();
    }

    private static int four(String letters) {
        return letters.charAt(0) << 24 | letters.charAt(1) << 16 | letters.charAt(2) << 8 | letters.charAt(3);
    }

    private static void feed(Used x, String twenty) {
        x.feed(four(twenty.substring(0, 4)), four(twenty.substring(4, 8)), four(twenty.substring(8, 12)),
                four(twenty.substring(12, 16)), four(twenty.substring(16, 20)));
    }

    /** Promise 1: "No TEXT; nothing was read." */
    private static void newObject() {
        Used x = new Used();
        for (int what = 0; what < 3; what++) {
            Check.due("count(" + what + ")", 0, x.count(what));
        }
        for (int what = 0; what < 7; what++) {
            Check.due("item(0, " + what + ")", -1, x.item(0, what));
            Check.due("part(0, 0, " + what + ")", -1, x.part(0, 0, what));
            Check.due("node(0, " + what + ")", -1, x.node(0, what));
        }
        Check.due("fault(0)", 0, x.fault(0));
        Check.due("fault(1)", -1, x.fault(1));
        Check.due("name(0, 0)", -1, x.name(0, 0));
        Check.due("find(0, 0)", -1, x.find(0, 0));
        Check.due("find of p", -1, x.find(0, 'p'));
        Check.due("tell(0)", -1, x.tell(0));
        Check.due("letter(0)", -1, x.letter(0));
        Check.due("end(0)", 0, x.end(0));
        Check.due("read()", 0, Check.read(x));
        Check.due("fault(0) behind read()", 0, x.fault(0));
        Check.due("count(0) behind read()", 0, x.count(0));
        // Another object has nothing of this one.
        Check.read(x, "p(X) :- q.");
        x.tell(0);
        Check.put(x, "r.");
        Used y = new Used();
        Check.due("count(0) of another", 0, y.count(0));
        Check.due("letter(0) of another", -1, y.letter(0));
        Check.due("end(0) of another", 0, y.end(0));
        Check.due("count(0) of the first", 1, x.count(0));
    }

    /** Promise 2: "Twenty bytes wait, those of a first, the highest of each first" */
    private static void highestFirst() {
        String twenty = "abcdefgh.ijklmno.pq.";
        for (int n = 1; n <= 20; n++) {
            Used x = new Used();
            feed(x, twenty);
            Check.due("end(" + n + ")", n, x.end(n));
            boolean whole = twenty.charAt(n - 1) == '.';
            int answer = Check.read(x);
            Check.due("read() of " + n, whole ? twenty.substring(0, n).replaceAll("[^.]", "").length() : Check.THROWN,
                    answer);
            Check.due("fault(1) of " + n, whole ? -1 : n, x.fault(1));
        }
        Used x = new Used();
        feed(x, "p(qrst,UVWX,y12).z. ");
        x.end(20);
        Check.due("read()", 2, Check.read(x));
        Check.due("name 1", "qrst", Check.name(x, 1));
        Check.due("name 2", "UVWX", Check.name(x, 2));
        Check.due("name 3", "y12", Check.name(x, 3));
        // A byte of 128 or more takes nothing of those ahead of it.
        x.feed(four("p.%\u00ff"), 0xFFFFFFFF, 0x80808080, four("\u0080\nq."), 0);
        x.end(16);
        Check.due("read() with high bytes", 2, Check.read(x));
        Check.due("the place behind them", 14, x.item(1, 5));
    }

    /** Promise 2: "in the place of those that waited" */
    private static void inThePlaceOfThoseThatWaited() {
        Used x = new Used();
        feed(x, "zzzzzzzzzzzzzzzzzzzz");
        feed(x, "p.                  ");
        Check.due("end(20)", 20, x.end(20));
        Check.due("read()", 1, Check.read(x));
        Check.due("name 0", "p", Check.name(x, 0));
        feed(x, "q.zzzzzzzzzzzzzzzzzz");
        x.feed(four("r.s."), 0, 0, 0, 0);
        Check.due("end(5)", 5, x.end(5));
        Check.due("read() with a zero", Check.THROWN, Check.read(x));
        Check.due("its place", 4, x.fault(1));
    }

    /** Promise 2: "(They are 0 at first ..)" */
    private static void zerosAtFirst() {
        for (int n = 1; n <= 20; n++) {
            Used x = new Used();
            Check.due("end(" + n + ")", n, x.end(n));
            Check.due("read() of zeros", Check.THROWN, Check.read(x));
            Check.due("fault(0) of zeros", 1, x.fault(0));
            Check.due("fault(1) of zeros", 0, x.fault(1));
        }
        Used x = new Used();
        Check.put(x, "p.%");
        Check.due("end(20) of zeros", 23, x.end(20));
        Check.due("read() with zeros behind %", 1, Check.read(x));
    }

    /** Promise 2: "(.. and behind each end() that is not refused.)" */
    private static void zerosBehindEnd() {
        for (int n = 0; n <= 20; n++) {
            Used x = new Used();
            feed(x, "p.q.r.s.t.u.v.w.x.y.");
            Check.due("end(" + n + ")", n, x.end(n));
            Check.due("end(20) behind it", n + 20, x.end(20));
            Check.due("read()", Check.THROWN, Check.read(x));
            Check.due("fault(0) of what was 0", 1, x.fault(0));
            Check.due("fault(1) of what was 0", n, x.fault(1));
        }
    }

    /** Promise 3: "The first n of the bytes that wait come behind the TEXT: how many it has." */
    private static void howManyEnded() {
        Used x = new Used();
        int length = 0;
        for (int n = 0; n <= 20; n++) {
            feed(x, "                    ");
            length += n;
            Check.due("end(" + n + ")", length, x.end(n));
        }
        Check.put(x, "p.");
        Check.due("read()", 1, Check.read(x));
        Check.due("the place behind them all", length, x.item(0, 5));
        Check.due("end(0) of a text that was read", 0, x.end(0));
    }

    /** Promise 3: "NONE, refused, when n isn't 0 .. 20" */
    private static void endRefusedByItsNumber() {
        int[] refused = {-1, 21, -2, 22, 24, 40, -20, -21, 256, 276, 3000, 3001, 65536, Integer.MAX_VALUE,
            Integer.MIN_VALUE, Integer.MAX_VALUE - 19, Integer.MIN_VALUE + 20};
        Used x = new Used();
        feed(x, "p.                  ");
        for (int n : refused) {
            Check.due("end(" + n + ")", -1, x.end(n));
        }
        Check.due("end(20)", 20, x.end(20));
        for (int n : refused) {
            Check.due("end(" + n + ") behind 20", -1, x.end(n));
        }
        Check.due("end(0)", 20, x.end(0));
        Check.due("read()", 1, Check.read(x));
    }

    /** Promise 3: "or there would be more than 3000" */
    private static void endRefusedByTheText() {
        for (int room = 0; room <= 20; room++) {
            Used x = new Used();
            Check.put(x, " ".repeat(3000 - room));
            feed(x, "                    ");
            for (int n = room + 1; n <= 20; n++) {
                Check.due("end(" + n + ") with room for " + room, -1, x.end(n));
            }
            Check.due("end(" + room + ") with room for it", 3000, x.end(room));
            Check.due("end(1) with no room", -1, x.end(1));
            Check.due("end(0) with no room", 3000, x.end(0));
            Check.due("read()", 0, Check.read(x));
            Check.due("end(20) behind read()", 20, x.end(20));
        }
    }

    /** Promises 2 and 3: a refused end() leaves the TEXT and the bytes that wait as they are. */
    private static void refusedEndChangesNothing() {
        Used x = new Used();
        feed(x, "p.q.                ");
        Check.due("end(21)", -1, x.end(21));
        Check.due("end(-1)", -1, x.end(-1));
        Check.due("end(4)", 4, x.end(4));
        Check.due("read()", 2, Check.read(x));
        Check.put(x, " ".repeat(2990));
        feed(x, "p.q.r.    zzzzzzzzzz");
        Check.due("end(11)", -1, x.end(11));
        Check.due("end(20)", -1, x.end(20));
        Check.due("end(10)", 3000, x.end(10));
        Check.due("read() of 3000", 3, Check.read(x));
    }

    /** Promise 4: "The TEXT, which is empty then in any case, is read" */
    private static void emptyInAnyCase() {
        Used x = new Used();
        Check.due("read()", 1, Check.read(x, "p."));
        Check.due("end(0) behind read()", 0, x.end(0));
        Check.due("read() again", 0, Check.read(x));
        Check.due("read() of a fault", Check.THROWN, Check.read(x, "p"));
        Check.due("end(0) behind a fault", 0, x.end(0));
        Check.due("read() behind a fault", 0, Check.read(x));
        Check.due("fault(0) of no text", 0, x.fault(0));
        String[] faults = {"[", "abcdefghijklmnopq", "2147483648", ".", "p :- " + "not ".repeat(21),
            "p :- X is 0" + "+1".repeat(41)};
        for (int i = 0; i < faults.length; i++) {
            Check.due("read() of fault " + (i + 1), Check.THROWN, Check.read(x, faults[i]));
            Check.due("its number", i + 1, x.fault(0));
            Check.due("end(0) behind fault " + (i + 1), 0, x.end(0));
            Check.due("read() behind fault " + (i + 1), 1, Check.read(x, "q."));
        }
    }

    /** Promise 4: "how many ITEMS" */
    private static void howManyItems() {
        Used x = new Used();
        Check.due("read() of no text", 0, Check.read(x));
        Check.due("read() of blanks", 0, Check.read(x, " \n\t%p."));
        Check.due("read() of one", 1, Check.read(x, "p."));
        Check.due("read() of four sorts", 4, Check.read(x, ":-type t--->a.:-pred p.:-mode p is det.p."));
        Check.due("read() of 119", 119, Check.read(x, "p.".repeat(119)));
        Check.due("read() of 120", 120, Check.read(x, "p.".repeat(120)));
        Check.due("read() of 121", Check.THROWN, Check.read(x, "p.".repeat(121)));
        Check.due("count(0) stays", 120, x.count(0));
        Check.due("read() of no text, last", 0, Check.read(x));
        Check.due("count(0) is none", 0, x.count(0));
    }

    /** Promise 4: "IllegalArgumentException: a FAULT": that class itself, and for a fault alone. */
    private static void aFaultThrows() {
        String[] texts = {"", "p.", "[", "p", "abcdefghijklmnopq.", "p(2147483648).", "p :- " + "(".repeat(21),
            "p(" + "a,".repeat(1200) + "a)."};
        for (int i = 0; i < texts.length; i++) {
            Used x = new Used();
            Check.put(x, texts[i]);
            String thrown = "nothing";
            try {
                x.read();
            } catch (RuntimeException e) {
                thrown = e.getClass().getName();
            }
            Check.due("thrown by read() of " + texts[i], i < 2 ? "nothing" : "java.lang.IllegalArgumentException",
                    thrown);
        }
    }

    /** Promise 4: "(what was read before stays)" */
    private static void whatWasReadStays() {
        String before = ":- type t ---> a ; b(t). :- pred p(t). :- mode p(in) is multi. "
                + "p(X) :- q(X, -7), X = f(_) ; r.";
        String[] faulty = {"[", "z", "z(y, x, W, 1, 2) :- v, u ; t. [", "z. y. x. w. v. u. t. s. r :- .",
            ":- type z ---> y(x, w, v) ; u", ":- mode z(out, out) is det. z", "p(" + "z,".repeat(1200) + "z).",
            "z.".repeat(121), "z :- " + "(".repeat(21)};
        String want = Check.all(Check.reads(before));
        for (String text : faulty) {
            Used x = Check.reads(before);
            Check.due("read() of " + text, Check.THROWN, Check.read(x, text));
            Check.due("what was read before " + text, want, Check.all(x));
            Check.due("read() of another fault", Check.THROWN, Check.read(x, "y(z). ]"));
            Check.due("what was read before two faults", want, Check.all(x));
            Check.due("told of it", "p(X) :- q(X, -7), X = f(_) ; r.", Check.told(x, 3));
            Check.due("find of p", 3, x.find('p', 0));
            Check.due("find of z", -1, x.find('z', 0));
        }
        // Without a fault nothing of it stays.
        Used x = Check.reads(before);
        Check.due("read() of z", 1, Check.read(x, "z."));
        Check.due("count(1)", 0, x.count(1));
        Check.due("count(2)", 1, x.count(2));
        Check.due("find of p behind z", -1, x.find('p', 0));
    }

    /** Promise 4: without a fault nothing of what was read before stays, however often one reads. */
    private static void eachReadAnew() {
        String[] texts = {"p(X, Y) :- q(Z), r.", "a.", "b(c, d(e)) :- f ; g.", ":- pred h(i, j).", "k(L). m(N)."};
        Used x = new Used();
        for (int i = 0; i < 15; i++) {
            String text = texts[i % 5];
            Check.due("read() of " + text, i % 5 == 4 ? 2 : 1, Check.read(x, text));
            Check.due("what is read of " + text, Check.all(Check.reads(text)), Check.all(x));
            Check.due("a name more", -1, x.name(x.count(2), 0));
            Check.due("a node more", -1, x.node(x.count(1), 0));
            Check.due("an item more", -1, x.item(x.count(0), 0));
            Check.due("a part more", -1, x.part(0, x.item(0, 2), 0));
            if (i % 3 == 0) {
                Check.due("read() of a fault", Check.THROWN, Check.read(x, "s(t, U) :- v(W) ; y. z"));
            }
        }
    }

    /**
     * Promise 5: "Of the latest read(): the FAULT's number, 0 without one, or before (what 0), its PLACE, NONE
     * without one (1)."
     */
    private static void faultOfTheLatestRead() {
        Used x = new Used();
        Check.due("fault(0) before", 0, x.fault(0));
        Check.due("fault(1) before", -1, x.fault(1));
        Check.put(x, "[");
        Check.due("fault(0) before read()", 0, x.fault(0));
        Check.read(x);
        Check.due("fault(0)", 1, x.fault(0));
        Check.due("fault(1)", 0, x.fault(1));
        Check.put(x, "p(2147483648).");
        Check.due("fault(0) stays until read()", 1, x.fault(0));
        Check.read(x);
        Check.due("fault(0) of the second", 3, x.fault(0));
        Check.due("fault(1) of the second", 2, x.fault(1));
        Check.read(x, "p.");
        Check.due("fault(0) without one", 0, x.fault(0));
        Check.due("fault(1) without one", -1, x.fault(1));
        Check.read(x, "p");
        Check.due("fault(0) of the last", 4, x.fault(0));
        Check.due("fault(1) of the last", 1, x.fault(1));
        Check.read(x);
        Check.due("fault(0) of no text", 0, x.fault(0));
        Check.due("fault(1) of no text", -1, x.fault(1));
    }

    /** Promise 5: "NONE for another what." */
    private static void faultForAnotherWhat() {
        Used x = new Used();
        Used y = new Used();
        Check.read(y, "p. [");
        for (int what : WILD) {
            Check.due("fault(" + what + ") before", -1, x.fault(what));
            Check.due("fault(" + what + ") with one", -1, y.fault(what));
        }
        Check.due("fault(2) before", -1, x.fault(2));
        Check.due("fault(2) with one", -1, y.fault(2));
    }

    /** Promise 6: "How many ITEMS (what 0), NODES (1), names (2) there are; NONE for another what." */
    private static void counts() {
        Used x = new Used();
        Used y = Check.reads(":- pred p(a, b). p(X, 1, _) :- q, r. s.");
        Check.due("count(0)", 3, y.count(0));
        Check.due("count(1)", 6, y.count(1));
        Check.due("count(2)", 7, y.count(2));
        for (int what : WILD) {
            Check.due("count(" + what + ") of nothing", -1, x.count(what));
            Check.due("count(" + what + ")", -1, y.count(what));
        }
        Check.due("count(3) of nothing", -1, x.count(3));
        Check.due("count(3)", -1, y.count(3));
    }

    private static final String FOUR = ":- type t ---> a ; b(t, u, t). :- pred p(t, u). "
            + ":- mode p(in, out, in) is semidet. p(X, 1, _, f(2)) :- q. r.";

    private static void row(String call, Used x, int k, int... want) {
        for (int what = 0; what < want.length; what++) {
            Check.due(call + ", item(" + k + ", " + what + ")", want[what], x.item(k, what));
        }
    }

    /** Promise 7: what item() answers of each sort. */
    private static void items() {
        Used x = Check.reads(FOUR);
        row("a type", x, 0, 0, 0, 2, -1, -1, 0);
        row("a pred", x, 1, 1, 4, 2, -1, -1, FOUR.indexOf(":- pred"));
        row("a mode", x, 2, 2, 4, 3, 1, -1, FOUR.indexOf(":- mode"));
        row("a CLAUSE", x, 3, 3, 4, 4, -1, 5, FOUR.indexOf("p(X"));
        row("a CLAUSE without a GOAL", x, 4, 3, 8, 0, -1, -1, FOUR.indexOf("r."));
    }

    /** Promise 7: "of a mode .. (3); of a CLAUSE its GOAL's node (4; NONE without)"; "NONE .. of another sort" */
    private static void itemsOfAnotherSort() {
        Used x = Check.reads("a :- b. :- mode a is det. :- type a ---> a. :- pred a. a.");
        int[] ways = {-1, 0, -1, -1, -1};
        int[] goals = {0, -1, -1, -1, -1};
        for (int k = 0; k < 5; k++) {
            Check.due("item(" + k + ", 3)", ways[k], x.item(k, 3));
            Check.due("item(" + k + ", 4)", goals[k], x.item(k, 4));
        }
    }

    /** Promise 7: "NONE when there is none such, or for another what" */
    private static void noSuchItem() {
        Used x = Check.reads(FOUR);
        for (int what = 0; what < 6; what++) {
            Check.due("item(5, " + what + ")", -1, x.item(5, what));
            Check.due("item(-1, " + what + ")", -1, x.item(-1, what));
        }
        for (int wild : WILD) {
            Check.due("item(" + wild + ", 0)", -1, x.item(wild, 0));
            Check.due("item(" + wild + ", 5)", -1, x.item(wild, 5));
        }
        for (int k = 0; k < 5; k++) {
            Check.due("item(" + k + ", 6)", -1, x.item(k, 6));
            for (int wild : WILD) {
                Check.due("item(" + k + ", " + wild + ")", -1, x.item(k, wild));
            }
        }
        Used full = Check.reads("a.".repeat(120));
        Check.due("item(119, 0) of 120", 3, full.item(119, 0));
        Check.due("item(120, 0) of 120", -1, full.item(120, 0));
    }

    /** Promise 8: what part() answers of each sort. */
    private static void parts() {
        Used x = Check.reads(FOUR);
        int[][] type = {{1, 0, -1, -1}, {2, 3, 0, 3, 0, -1, -1}, {-1, -1, -1, -1}};
        for (int i = 0; i < type.length; i++) {
            for (int what = 0; what < type[i].length; what++) {
                Check.due("part(0, " + i + ", " + what + ")", type[i][what], x.part(0, i, what));
            }
        }
        int[][] others = {{0, 3, -1, -1}, {0, 1, 0, -1}, {0, 1, 2, 3, -1, -1}, {-1, -1}};
        for (int k = 1; k <= 4; k++) {
            for (int i = 0; i < others[k - 1].length; i++) {
                Check.due("part(" + k + ", " + i + ", 0)", others[k - 1][i], x.part(k, i, 0));
            }
        }
    }

    /** Promise 8: "NONE when there is none such." */
    private static void noSuchPart() {
        Used x = Check.reads(FOUR);
        for (int k = 0; k < 5; k++) {
            Check.due("part(" + k + ", its size, 0)", -1, x.part(k, x.item(k, 2), 0));
            for (int wild : WILD) {
                Check.due("part(" + k + ", " + wild + ", 0)", -1, x.part(k, wild, 0));
                Check.due("part(" + k + ", " + wild + ", 1)", -1, x.part(k, wild, 1));
                Check.due("part(" + k + ", 1, " + wild + ")", -1, x.part(k, 1, wild));
                Check.due("part(" + wild + ", 0, 0)", -1, x.part(wild, 0, 0));
            }
            for (int i = 0; k > 0 && i < 4; i++) {
                for (int what = 1; what < 5; what++) {
                    Check.due("part(" + k + ", " + i + ", " + what + ")", -1, x.part(k, i, what));
                }
            }
        }
        Check.due("part(5, 0, 0)", -1, x.part(5, 0, 0));
        Check.due("part(0, 0, 2), of no NAMES", -1, x.part(0, 0, 2));
        Check.due("part(0, 1, 4), the last of three", 0, x.part(0, 1, 4));
        Check.due("part(0, 1, 5), behind it", -1, x.part(0, 1, 5));
        // What another type, or a pred, has next to it is not this one's.
        x = Check.reads(":- type t ---> a. :- type u ---> b(c). :- pred p(d). :- pred q. "
                + ":- mode p(out) is det. :- mode q is det. r(s). t.");
        Check.due("part(0, 1, 0)", -1, x.part(0, 1, 0));
        Check.due("part(0, 0, 2)", -1, x.part(0, 0, 2));
        Check.due("part(1, 1, 0)", -1, x.part(1, 1, 0));
        Check.due("part(1, 0, 3)", -1, x.part(1, 0, 3));
        Check.due("part(2, 1, 0)", -1, x.part(2, 1, 0));
        Check.due("part(3, 0, 0)", -1, x.part(3, 0, 0));
        Check.due("part(4, 1, 0)", -1, x.part(4, 1, 0));
        Check.due("part(5, 0, 0)", -1, x.part(5, 0, 0));
        Check.due("part(6, 1, 0)", -1, x.part(6, 1, 0));
        Check.due("part(7, 0, 0)", -1, x.part(7, 0, 0));
    }

    private static final String ALL = "p(X, _, 7, -7, a, f(b, 1)) :- true, fail, X = a, X \\= a, "
            + "X is 1 + 2 - 3 * 4 // 5 mod 6, X < 1, X =< 1, X > 1, X >= 1, X =:= 1, X =\\= 1, "
            + "q, r(X), not q, (q, q), (q ; q ; q), (q -> q ; q).";

    /** Promise 9: "its SORT (what 0), its name's number or value (1; 0 where none is told), how many PARTS (2)" */
    private static void nodes() {
        Used x = Check.reads(ALL);
        int[][] rows = {{0, 1, 0}, {0, -1, 0}, {1, 7, 0}, {1, -7, 0}, {2, 2, 0}, {2, 3, 2}, {2, 4, 0}, {1, 1, 0}, {23,
            0, 17}, {10, 0, 0}, {11, 0, 0}, {12, 0, 2}, {0, 1, 0}, {2, 2, 0}, {13, 0, 2}, {0, 1, 0}, {2, 2, 0}, {14, 0,
            2}, {0, 1, 0}, {4, 0, 2}, {3, 0, 2}, {1, 1, 0}, {1, 2, 0}, {7, 0, 2}, {6, 0, 2}, {5, 0, 2}, {1, 3, 0}, {1,
            4, 0}, {1, 5, 0}, {1, 6, 0}, {15, 0, 2}, {0, 1, 0}, {1, 1, 0}, {16, 0, 2}, {0, 1, 0}, {1, 1, 0}, {17, 0, 2},
            {0, 1, 0}, {1, 1, 0}, {18, 0, 2}, {0, 1, 0}, {1, 1, 0}, {19, 0, 2}, {0, 1, 0}, {1, 1, 0}, {20, 0, 2}, {0, 1,
            0}, {1, 1, 0}, {21, 5, 0}, {21, 6, 1}, {0, 1, 0}, {22, 0, 1}, {21, 5, 0}, {23, 0, 2}, {21, 5, 0}, {21, 5,
            0}, {24, 0, 3}, {21, 5, 0}, {21, 5, 0}, {21, 5, 0}, {25, 0, 3}, {21, 5, 0}, {21, 5, 0}, {21, 5, 0}};
        Check.due("count(1)", rows.length, x.count(1));
        for (int n = 0; n < rows.length; n++) {
            for (int what = 0; what < 3; what++) {
                Check.due("node(" + n + ", " + what + ")", rows[n][what], x.node(n, what));
            }
        }
        // The places, by the bytes that stand there.
        String[] words = {"X", "_", "7", "-7", "a", "f", "b", "1", ", fail", "true", "fail", "= a", "X", "a", "\\=",
            "X", "a", "is", "X", "- 3", "+", "1", "2", "mod", "//", "*", "3", "4", "5", "6", "< 1", "X", "1", "=<", "X",
            "1", "> 1", "X", "1", ">=", "X", "1", "=:=", "X", "1", "=\\=", "X", "1", "q", "r", "X", "not", "q", ", q",
            "q", "q", "; q ; q", "q", "q", "q", "->", "q", "q", "q"};
        for (int n = 0; n < words.length; n++) {
            int place = x.node(n, 3);
            boolean there = place >= 0 && ALL.startsWith(words[n], place);
            Check.due("what stands at node(" + n + ", 3), " + place, words[n], there ? words[n] : "something else");
        }
        Check.due("the place of the last X", ALL.indexOf("X), not"), x.node(50, 3));
        Check.due("the place of the last q", ALL.length() - 3, x.node(63, 3));
    }

    /** Promise 9: "its PARTS' numbers (4 and more). NONE when there is none such." */
    private static void noSuchNode() {
        Used x = Check.reads(ALL);
        int nodes = x.count(1);
        for (int n = 0; n < nodes; n++) {
            int parts = x.node(n, 2);
            Check.due("node(" + n + ", behind its parts)", -1, x.node(n, 4 + parts));
            for (int i = 0; i < parts; i++) {
                Check.due("node(" + n + ", 4 + " + i + ") is behind it", 1, x.node(n, 4 + i) > n ? 1 : 0);
            }
        }
        for (int what = 0; what < 6; what++) {
            Check.due("node(-1, " + what + ")", -1, x.node(-1, what));
            Check.due("node(count, " + what + ")", -1, x.node(nodes, what));
        }
        for (int wild : WILD) {
            Check.due("node(" + wild + ", 0)", -1, x.node(wild, 0));
            Check.due("node(" + wild + ", 4)", -1, x.node(wild, 4));
            Check.due("node(8, " + wild + ")", -1, x.node(8, wild));
            Check.due("node(0, " + wild + ")", -1, x.node(0, wild));
        }
        Used full = Check.reads("p(" + "a,".repeat(1199) + "a).");
        Check.due("node(1199, 0) of 1200", 2, full.node(1199, 0));
        Check.due("node(1200, 0) of 1200", -1, full.node(1200, 0));
        Check.due("node(1199, 4) of 1200", -1, full.node(1199, 4));
        full = Check.reads("p(f(" + "a,".repeat(1198) + "a)).");
        Check.due("node(0, 4 + 1198)", 1199, full.node(0, 4 + 1198));
        Check.due("node(0, 4 + 1199)", -1, full.node(0, 4 + 1199));
    }

    /** Promise 9: "(A value may be -1, too.)" */
    private static void valueOfMinusOne() {
        Used x = Check.reads("p(-1, _, 0, -0, -2147483648, 2147483647, 1).");
        int[] values = {-1, -1, 0, 0, Integer.MIN_VALUE, Integer.MAX_VALUE, 1};
        for (int n = 0; n < values.length; n++) {
            Check.due("node(" + n + ", 0)", n == 1 ? 0 : 1, x.node(n, 0));
            Check.due("node(" + n + ", 1)", values[n], x.node(n, 1));
        }
    }

    /** Promise 10: "Byte i of name k; NONE when there is none." */
    private static void names() {
        String letters = "abcdefghijklmnop";
        for (int n = 1; n <= 16; n++) {
            String name = letters.substring(0, n);
            Used x = Check.reads("z(" + name + ", Y).");
            for (int i = 0; i < n; i++) {
                Check.due("name(1, " + i + ") of " + name, name.charAt(i), x.name(1, i));
            }
            for (int i = n; i < n + 20; i++) {
                Check.due("name(1, " + i + ") of " + name, -1, x.name(1, i));
            }
            Check.due("name(1, -1)", -1, x.name(1, -1));
            Check.due("name(-1, 0)", -1, x.name(-1, 0));
            Check.due("name(2, 0)", 'Y', x.name(2, 0));
            Check.due("name(3, 0)", -1, x.name(3, 0));
            for (int wild : WILD) {
                Check.due("name(" + wild + ", 0)", -1, x.name(wild, 0));
                Check.due("name(1, " + wild + ")", -1, x.name(1, wild));
            }
        }
        Used full = Check.reads("p(" + manyNames(149) + ").");
        Check.due("name(149, 0) of 150", 'a', full.name(149, 0));
        Check.due("name(149, 3) of 150", '8', full.name(149, 3));
        Check.due("name(149, 4) of 150", -1, full.name(149, 4));
        Check.due("name(150, 0) of 150", -1, full.name(150, 0));
    }

    private static String manyNames(int n) {
        StringBuilder out = new StringBuilder("a100");
        for (int i = 1; i < n; i++) {
            out.append(",a").append(100 + i);
        }
        return out.toString();
    }

    /**
     * Promise 11: "The number of a name: its characters are the bytes of first and then of second, the highest
     * first"
     */
    private static void finds() {
        String letters = "abcdefghijklmnop";
        for (int n = 1; n <= 16; n++) {
            String name = letters.substring(0, n);
            Used x = Check.reads("z(" + name + ", Y).");
            Check.due("find of " + name, 1, Check.find(x, name));
            for (int m = 1; m <= 16; m++) {
                Check.due("find of " + m + " of its letters", m == n ? 1 : -1, Check.find(x, letters.substring(0, m)));
            }
        }
        Used x = Check.reads("ab(ba, A, Ab, _b, b_, a1).");
        String[] names = {"ab", "ba", "A", "Ab", "_b", "b_", "a1"};
        for (int k = 0; k < names.length; k++) {
            Check.due("find of " + names[k], k, Check.find(x, names[k]));
        }
        Used full = Check.reads("p(" + manyNames(149) + ").");
        Check.due("find of the first", 0, Check.find(full, "p"));
        Check.due("find of the last", 149, Check.find(full, "a248"));
        Check.due("find of none", -1, Check.find(full, "a249"));
    }

    /** Promise 11: "zeros left out": wherever they are. */
    private static void zerosLeftOut() {
        Used x = Check.reads("z(ab, abcdefgh).");
        for (int i = 0; i < 16; i++) {
            for (int j = i + 1; j < 16; j++) {
                long first = (i < 8 ? (long) 'a' << (56 - 8 * i) : 0) | (j < 8 ? (long) 'b' << (56 - 8 * j) : 0);
                long second = (i >= 8 ? (long) 'a' << (120 - 8 * i) : 0) | (j >= 8 ? (long) 'b' << (120 - 8 * j) : 0);
                Check.due("find of ab at " + i + " and " + j, 1, x.find(first, second));
            }
        }
        Check.due("find(0, abcdefgh)", 2, x.find(0, 0x6162636465666768L));
        Check.due("find(abcdefgh, 0)", 2, x.find(0x6162636465666768L, 0));
        Check.due("find(abcd, efgh)", 2, x.find(0x61626364L, 0x65666768L));
        Check.due("find(a0b0c0d0, 0e0f0g0h)", 2, x.find(0x6100620063006400L, 0x0065006600670068L));
        Check.due("find(ba)", -1, x.find(0x6261L, 0));
        Check.due("find(b, a)", -1, x.find('b', 'a'));
    }

    /** Promise 11: "NONE if none that was read has it." */
    private static void noneHasIt() {
        Used x = Check.reads(":- mode p(in) is det. q(_, 12) :- true, not r.");
        String[] none = {"", "a", "pp", "P", "in", "is", "det", "mode", "true", "not", "_", "12", "(", "pq"};
        for (String name : none) {
            Check.due("find of " + name, -1, Check.find(x, name));
        }
        Check.due("find of 0xF0 ..", -1, x.find(0xF0L, 0));
        Check.due("find of -1", -1, x.find(-1, -1));
        Check.due("find of p and a high byte", -1, x.find(0x70L << 56 | 0x80, 0));
        Check.due("find of the least", -1, x.find(Long.MIN_VALUE, Long.MIN_VALUE));
        Check.due("find of r", 2, x.find('r', 0));
        Check.due("read() of no text", 0, Check.read(x));
        Check.due("find of r behind it", -1, x.find('r', 0));
    }

    /** Promise 12: "OUT becomes ITEM k as a text: how many bytes." */
    private static void tells() {
        Used x = Check.reads(FOUR);
        String[] told = {":- type t ---> a ; b(t, u, t).", ":- pred p(t, u).", ":- mode p(in, out, in) is semidet.",
            "p(X, 1, _, f(2)) :- q.", "r."};
        for (int k = 0; k < told.length; k++) {
            Check.due("tell(" + k + ")", told[k].length(), x.tell(k));
            Check.due("told of " + k, told[k], Check.told(x, k));
        }
        Used full = Check.reads("a.".repeat(119) + "bc.");
        Check.due("tell(119) of 120", 3, full.tell(119));
        Check.due("tell(120) of 120", -1, full.tell(120));
    }

    /** Promise 12: "NONE, and OUT stays, when there is none such." */
    private static void outStays() {
        Used x = Check.reads("p(X). q.");
        Check.due("tell(2), the first", -1, x.tell(2));
        Check.due("letter(0) of no OUT", -1, x.letter(0));
        Check.due("tell(0)", 5, x.tell(0));
        int[] none = {2, -1};
        for (int k : none) {
            Check.due("tell(" + k + ")", -1, x.tell(k));
        }
        for (int wild : WILD) {
            Check.due("tell(" + wild + ")", -1, x.tell(wild));
        }
        String want = "p(X).";
        for (int i = 0; i < 5; i++) {
            Check.due("letter(" + i + ") stays", want.charAt(i), x.letter(i));
        }
        Check.due("letter(5) stays", -1, x.letter(5));
        Check.due("read() of no text", 0, Check.read(x));
        Check.due("tell(0) of no item", -1, x.tell(0));
        Check.due("letter(2) stays", 'X', x.letter(2));
    }

    /** Promise 13: "Byte i of OUT; NONE when there is none." */
    private static void letters() {
        Used x = Check.reads("p(X, -12) :- q. r.");
        Check.due("letter(0) before tell", -1, x.letter(0));
        String want = "p(X, -12) :- q.";
        Check.due("tell(0)", want.length(), x.tell(0));
        for (int i = 0; i < want.length(); i++) {
            Check.due("letter(" + i + ")", want.charAt(i), x.letter(i));
        }
        Check.due("letter(length)", -1, x.letter(want.length()));
        Check.due("letter(-1)", -1, x.letter(-1));
        for (int wild : WILD) {
            Check.due("letter(" + wild + ")", -1, x.letter(wild));
        }
        Check.due("tell(1), a shorter one", 2, x.tell(1));
        Check.due("letter(1)", '.', x.letter(1));
        Check.due("letter(2), of what was longer", -1, x.letter(2));
    }
}
