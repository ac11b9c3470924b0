import java.util.Random;

/** Texts made at random: what is told reads as its item does, and nothing but faults is ever thrown. */
public final class RandomTest {
    private static final String[] WORDS = {"p", "q", "foo", "X", "Y", "_", "_z", "0", "1", "-1", "17", "2147483648",
        "(", ")", "(", ")", ",", ",", ".", ".", ";", ";", "=", "+", "-", "*", "//", ":-", ":-", "->", "--->", "\\=", "<",
        "=<", ">", ">=", "=:=", "=\\=", "not", "true", "fail", "is", "mod", "type", "pred", "mode", "in", "out", "det",
        "semidet", "abcdefghijklmnopq", "[", "% r\n", ":", "\n"};

    private final Random random;

    private RandomTest(long seed) {
        random = new Random(seed);
    }

    public static void main(String[] args) {
        RandomTest test = new RandomTest(20261115);
        for (int i = 0; i < 3000; i++) {
            test.toldReadsAlike();
            test.saladHasAFault();
        }
        Check.finish();
    }

    private String one(String... texts) {
        return texts[random.nextInt(texts.length)];
    }

    private String blank() {
        return one(" ", " ", " ", "\n", "\t", " % r.\n", "  ");
    }

    private String row(int depth, String kind, String between) {
        StringBuilder out = new StringBuilder(made(depth, kind));
        for (int i = random.nextInt(3); i > 0; i--) {
            out.append(between).append(made(depth, kind));
        }
        return out.toString();
    }

    private String list(int depth, String kind) {
        return random.nextInt(3) == 0 ? "" : one("", " ") + "(" + row(depth, kind, one(",", ", ")) + ")";
    }

    private String made(int depth, String kind) {
        switch (kind) {
            case "name": return one("a", "b", "int", "tree", "type", "pred", "mode", "in", "out", "det", "longer_name_here");
            case "way": return one("in", "out");
            case "constructor": return made(0, "name") + list(0, "name");
            case "term": return term(depth);
            case "sum": return sum(depth);
            case "goal": return goal(depth);
            case "single": return single(depth);
            default: throw new IllegalStateException(kind);
        }
    }

    private String term(int depth) {
        switch (random.nextInt(depth > 0 ? 5 : 3)) {
            case 0: return one("X", "Y", "_", "_1", "Abc");
            case 1: return one("0", "1", "007", "2147483647");
            case 2: return one("-1", "- 2", "-2147483648", "-0");
            case 3: return made(0, "name");
            default: return made(0, "name") + list(depth - 1, "term");
        }
    }

    private String sum(int depth) {
        if (depth <= 0 || random.nextInt(3) == 0) {
            return random.nextInt(4) == 0 ? "(" + term(0) + ")" : term(Math.max(depth, 0));
        }
        String made = sum(depth - 1) + blank() + one("+", "-", "*", "//", "mod") + blank() + sum(depth - 1);
        return random.nextInt(2) == 0 ? made : "(" + made + ")";
    }

    private String openSum(int depth) {
        return term(1) + (random.nextInt(2) == 0 ? "" : blank() + one("+", "-", "*", "//", "mod") + blank() + sum(depth));
    }

    private String goal(int depth) {
        String rows = row(depth - 1, "single", one(",", ", "));
        switch (random.nextInt(depth > 0 ? 4 : 1)) {
            case 1: return rows + one(";", " ; ") + goal(depth - 1);
            case 2: return rows + "->" + row(depth - 1, "single", ",") + blank() + ";" + goal(depth - 1);
            default: return rows;
        }
    }

    private String single(int depth) {
        switch (random.nextInt(depth > 0 ? 8 : 6)) {
            case 0: return one("true", "fail");
            case 1: return term(1) + one("=", " = ", "\\=", " \\= ") + term(2);
            case 2: return one("X", "_", "Abc") + blank() + "is" + blank() + sum(3);
            case 3: return openSum(2) + blank() + one("<", "=<", ">", ">=", "=:=", "=\\=") + sum(2);
            case 4: return "not" + blank() + (depth > 0 ? single(depth - 1) : "a");
            case 5: return made(0, "name") + list(1, "term");
            default: return "(" + goal(depth - 1) + ")";
        }
    }

    private String item() {
        String name = made(0, "name");
        switch (random.nextInt(6)) {
            case 0: return ":-" + blank() + "type" + blank() + name + one("--->", " ---> ") + row(0, "constructor", " ; ");
            case 1: return ":- pred " + name + list(0, "name");
            case 2: return ":- mode " + name + list(0, "way") + " is " + one("det", "semidet", "multi", "nondet");
            case 3: return name + list(2, "term");
            default: return name + list(2, "term") + one(":-", " :- ") + goal(3);
        }
    }

    private void toldReadsAlike() {
        StringBuilder text = new StringBuilder();
        for (int i = random.nextInt(4); i >= 0; i--) {
            text.append(item()).append(one(".", " .", ".\n"));
        }
        if (text.length() > 2500) {
            return;
        }
        Used x = Check.reads(text.toString());
        StringBuilder told = new StringBuilder();
        for (int k = 0; k < x.count(0); k++) {
            told.append(Check.told(x, k));
        }
        if (told.length() > 3000) {
            return;
        }
        Used y = Check.reads(told.toString());
        Check.due("what is read of " + told, Check.all(x), Check.all(y));
        StringBuilder again = new StringBuilder();
        for (int k = 0; k < y.count(0); k++) {
            again.append(Check.told(y, k));
        }
        Check.due("told again", told.toString(), again.toString());
    }

    private void saladHasAFault() {
        StringBuilder text = new StringBuilder(one("", "p :- ", "p(", "p :- X ", ":- type t ---> ", ":- mode p "));
        for (int i = random.nextInt(12); i > 0; i--) {
            text.append(one(WORDS)).append(one("", " "));
        }
        if (random.nextInt(10) == 0) {
            text.append((char) random.nextInt(256));
        }
        Used x = new Used();
        int answer = Check.read(x, text.toString());
        boolean fault = answer == Check.THROWN;
        Check.due("a fault's number, of " + text, fault ? 1 : 0, x.fault(0) > 0 && x.fault(0) < 7 ? 1 : 0);
        Check.due("a fault's place, of " + text, fault ? 1 : 0, x.fault(1) >= 0 && x.fault(1) <= text.length() ? 1 : 0);
        if (fault && x.fault(0) < 4) {
            return;
        }
        // What stands ahead of the fault's place has no fault but its end.
        String ahead = fault ? text.substring(0, x.fault(1)) : text.toString();
        Used y = new Used();
        if (Check.read(y, ahead) == Check.THROWN) {
            Check.due("the fault of what is ahead, of " + text, 4, y.fault(0));
            Check.due("the place of what is ahead, of " + text, ahead.length(), y.fault(1));
        }
    }
}
