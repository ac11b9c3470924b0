import java.util.ArrayList;
import java.util.List;
import java.util.Random;

/**
 * Clauses made at random as trees first, then written with more blanks and brackets than they need: nodes,
 * names, places and what is told have to be those of the tree.
 */
public final class ModelTest {
    private static final String[] SIGNS = {"", "", "", "+", "-", "*", "//", "mod", "", "", "true", "fail", "=", "\\=",
        "is", "<", "=<", ">", ">=", "=:=", "=\\="};

    /** A node as the document tells of it; letters are its name's or number's. */
    private static final class Tree {
        final int sort;
        final String letters;
        final List<Tree> parts = new ArrayList<>();
        int place;
        int value;

        Tree(int sort, String letters, Tree... parts) {
            this.sort = sort;
            this.letters = letters;
            this.parts.addAll(List.of(parts));
        }
    }

    private final Random random;
    private final StringBuilder text = new StringBuilder();
    private final List<String> names = new ArrayList<>();

    private ModelTest(long seed) {
        random = new Random(seed);
    }

    public static void main(String[] args) {
        for (int seed = 0; seed < 3000; seed++) {
            new ModelTest(seed).run();
        }
        Check.finish();
    }

    private int below(int n) {
        return random.nextInt(n);
    }

    private String one(String... texts) {
        return texts[below(texts.length)];
    }

    private Tree term(int depth) {
        switch (below(depth > 0 ? 5 : 4)) {
            case 0: return new Tree(0, one("X", "Y", "Zz9", "_v", "_", "_"));
            case 1: return new Tree(1, one("0", "1", "42", "2147483647"));
            case 2: return new Tree(1, one("-1", "-2147483648", "-30"));
            case 3: return new Tree(2, one("a", "b", "abcdefgh", "abcdefghi", "abcdefghijklmnop", "type", "in"));
            default: break;
        }
        Tree call = new Tree(2, one("f", "g", "a", "out"));
        for (int i = below(3); i >= 0; i--) {
            call.parts.add(term(depth - 1));
        }
        return call;
    }

    private Tree sum(int depth) {
        if (depth == 0 || below(3) == 0) {
            return term(1);
        }
        return new Tree(3 + below(5), "", sum(depth - 1), sum(depth - 1));
    }

    /** A SUM that begins with no ( : first what binds more. */
    private Tree openSum() {
        Tree sum = term(1);
        for (int i = below(3); i > 0; i--) {
            sum = new Tree(5 + below(3), "", sum, sum(1));
        }
        for (int i = below(3); i > 0; i--) {
            sum = new Tree(3 + below(2), "", sum, sum(2));
        }
        return sum;
    }

    private Tree goal(int depth) {
        switch (below(depth > 0 ? 11 : 5)) {
            case 0: return new Tree(10 + below(2), "");
            case 1: return new Tree(12 + below(2), "", term(2), term(2));
            case 2: return new Tree(14, "", new Tree(0, one("X", "_", "W")), sum(3));
            case 3: return new Tree(15 + below(6), "", openSum(), sum(2));
            case 5: return new Tree(22, "", goal(depth - 1));
            case 6: case 7: return new Tree(25, "", goal(depth - 1), goal(depth - 1), goal(depth - 1));
            case 8: return several(23, depth);
            case 9: case 10: return several(24, depth);
            default: break;
        }
        Tree call = term(2);
        return call.sort == 2 ? called(call) : goal(depth);
    }

    private static Tree called(Tree term) {
        Tree call = new Tree(21, term.letters);
        call.parts.addAll(term.parts);
        return call;
    }

    private Tree several(int sort, int depth) {
        Tree made = new Tree(sort, "", goal(depth - 1), goal(depth - 1));
        for (int i = below(3); i > 0; i--) {
            made.parts.add(goal(depth - 1));
        }
        return made;
    }

    /** Writes a WORD behind random BLANKS, if need be at least one: its place. */
    private int word(String letters) {
        char last = text.length() == 0 ? ' ' : text.charAt(text.length() - 1);
        boolean apart = Character.isLetterOrDigit(last) || last == '_';
        boolean both = apart && (Character.isLetterOrDigit(letters.charAt(0)) || letters.charAt(0) == '_');
        boolean signs = !apart && "=:<>-\\/".indexOf(last) >= 0 && "=:<>-\\/".indexOf(letters.charAt(0)) >= 0;
        text.append(one(" ", "\n", "\t ", " %( x.\n", both || signs ? " " : "", both || signs ? "\n" : ""));
        text.append(letters);
        return text.length() - letters.length();
    }

    private int number(String name) {
        if (!names.contains(name)) {
            names.add(name);
        }
        return names.indexOf(name);
    }

    private void writeTerm(Tree t) {
        boolean below = t.sort == 1 && t.letters.startsWith("-");
        t.place = word(below ? "-" : t.sort == 1 ? one("", "0", "000") + t.letters : t.letters);
        if (below) {
            word(one("", "0") + t.letters.substring(1));
        }
        t.value = t.sort == 1 ? Integer.parseInt(t.letters) : t.letters.equals("_") ? -1 : number(t.letters);
        writeList(t.parts);
    }

    private void writeList(List<Tree> terms) {
        for (int i = 0; i < terms.size(); i++) {
            word(i == 0 ? "(" : ",");
            writeTerm(terms.get(i));
        }
        if (!terms.isEmpty()) {
            word(")");
        }
    }

    private static int binding(Tree t) {
        return t.sort == 3 || t.sort == 4 ? 0 : t.sort >= 5 && t.sort <= 7 ? 1 : 2;
    }

    /** Writes a SUM, with brackets at random unless it may not begin with one. */
    private void writeSum(Tree t, boolean needed, boolean open) {
        int brackets = (needed ? 1 : 0) + (open || below(4) > 0 ? 0 : 1 + below(2));
        for (int i = 0; i < brackets; i++) {
            word("(");
        }
        if (t.sort < 3) {
            writeTerm(t);
        } else {
            Tree left = t.parts.get(0);
            Tree right = t.parts.get(1);
            writeSum(left, binding(left) < binding(t), open && brackets == 0);
            t.place = word(SIGNS[t.sort]);
            writeSum(right, binding(right) <= binding(t), false);
        }
        for (int i = 0; i < brackets; i++) {
            word(")");
        }
    }

    private static boolean inBrackets(Tree t, int i, Tree part) {
        boolean last = i == t.parts.size() - 1;
        switch (t.sort) {
            case 22: case 23: return part.sort >= 23;
            case 24: return part.sort == 24 || part.sort == 25 && !last;
            default: return part.sort >= 24 && !last;
        }
    }

    private void writeGoal(Tree t, boolean needed) {
        int brackets = (needed ? 1 : 0) + (below(5) > 0 ? 0 : 1 + below(2));
        for (int i = 0; i < brackets; i++) {
            word("(");
        }
        if (t.sort < 12 || t.sort == 21) {
            t.place = word(t.sort == 21 ? t.letters : SIGNS[t.sort]);
            t.value = t.sort == 21 ? number(t.letters) : 0;
            writeList(t.parts);
        } else if (t.sort < 14) {
            writeTerm(t.parts.get(0));
            t.place = word(SIGNS[t.sort]);
            writeTerm(t.parts.get(1));
        } else if (t.sort < 21) {
            writeSum(t.parts.get(0), false, true);
            t.place = word(SIGNS[t.sort]);
            writeSum(t.parts.get(1), false, false);
        } else {
            writeParts(t);
        }
        for (int i = 0; i < brackets; i++) {
            word(")");
        }
    }

    private void writeParts(Tree t) {
        if (t.sort == 22) {
            t.place = word("not");
        }
        for (int i = 0; i < t.parts.size(); i++) {
            if (i > 0) {
                int place = word(t.sort == 23 ? "," : t.sort == 25 && i == 1 ? "->" : ";");
                t.place = i == 1 ? place : t.place;
            }
            writeGoal(t.parts.get(i), inBrackets(t, i, t.parts.get(i)));
        }
    }

    private static String told(Tree t) {
        if (t.sort < 3 || t.sort == 21) {
            return t.letters + toldList(t.parts);
        }
        if (t.sort < 8) {
            Tree left = t.parts.get(0);
            Tree right = t.parts.get(1);
            return closed(left, binding(left) < binding(t)) + " " + SIGNS[t.sort] + " "
                    + closed(right, binding(right) <= binding(t));
        }
        if (t.sort < 12) {
            return SIGNS[t.sort];
        }
        if (t.sort < 21) {
            return told(t.parts.get(0)) + " " + SIGNS[t.sort] + " " + told(t.parts.get(1));
        }
        StringBuilder out = new StringBuilder(t.sort == 22 ? "not " : "");
        for (int i = 0; i < t.parts.size(); i++) {
            String between = t.sort == 23 ? ", " : t.sort == 25 && i == 1 ? " -> " : " ; ";
            out.append(i == 0 ? "" : between).append(closed(t.parts.get(i), inBrackets(t, i, t.parts.get(i))));
        }
        return out.toString();
    }

    private static String closed(Tree t, boolean closed) {
        return closed ? "(" + told(t) + ")" : told(t);
    }

    private static String toldList(List<Tree> terms) {
        List<String> told = new ArrayList<>();
        for (Tree term : terms) {
            told.add(told(term));
        }
        return told.isEmpty() ? "" : "(" + String.join(", ", told) + ")";
    }

    private static void number(Tree t, List<Tree> nodes) {
        nodes.add(t);
        for (Tree part : t.parts) {
            number(part, nodes);
        }
    }

    private void run() {
        List<Tree> heads = new ArrayList<>();
        List<Tree> goals = new ArrayList<>();
        List<Integer> places = new ArrayList<>();
        for (int i = below(3); i >= 0; i--) {
            Tree head = called(new Tree(2, one("p", "q", "pred", "mode", "abcdefghijklmno_")));
            for (int j = below(4); j > 0; j--) {
                head.parts.add(term(2));
            }
            heads.add(head);
            goals.add(below(4) == 0 ? null : goal(3));
            places.add(word(head.letters));
            number(head.letters);
            writeList(head.parts);
            if (goals.get(goals.size() - 1) != null) {
                word(":-");
                writeGoal(goals.get(goals.size() - 1), false);
            }
            word(".");
        }
        if (text.length() <= 3000) {
            compare(heads, goals, places);
        }
    }

    private void compare(List<Tree> heads, List<Tree> goals, List<Integer> places) {
        Used x = new Used();
        int answer = Check.read(x, text.toString());
        if (x.fault(0) >= 5) {
            return;
        }
        Check.due("read() of " + text, heads.size(), answer);
        List<Tree> nodes = new ArrayList<>();
        for (int k = 0; k < heads.size(); k++) {
            Tree head = heads.get(k);
            Tree goal = goals.get(k);
            String about = ", item " + k + " of " + text;
            Check.due("its sort" + about, 3, x.item(k, 0));
            Check.due("its name" + about, names.indexOf(head.letters), x.item(k, 1));
            Check.due("its size" + about, head.parts.size(), x.item(k, 2));
            Check.due("its place" + about, places.get(k), x.item(k, 5));
            for (int i = 0; i < head.parts.size(); i++) {
                Check.due("its part " + i + about, nodes.size(), x.part(k, i, 0));
                number(head.parts.get(i), nodes);
            }
            Check.due("its goal" + about, goal == null ? -1 : nodes.size(), x.item(k, 4));
            if (goal != null) {
                number(goal, nodes);
            }
            String told = head.letters + toldList(head.parts) + (goal == null ? "" : " :- " + told(goal)) + ".";
            Check.due("told" + about, told, Check.told(x, k));
        }
        Check.due("count(1) of " + text, nodes.size(), x.count(1));
        Check.due("count(2) of " + text, names.size(), x.count(2));
        for (int k = 0; k < names.size(); k++) {
            Check.due("name " + k + " of " + text, names.get(k), Check.name(x, k));
        }
        for (int n = 0; n < nodes.size(); n++) {
            compareNode(x, nodes, n);
        }
    }

    private void compareNode(Used x, List<Tree> nodes, int n) {
        Tree node = nodes.get(n);
        String about = ", node " + n + " of " + text;
        Check.due("its sort" + about, node.sort, x.node(n, 0));
        Check.due("its value" + about, node.value, x.node(n, 1));
        Check.due("its size" + about, node.parts.size(), x.node(n, 2));
        Check.due("its place" + about, node.place, x.node(n, 3));
        for (int i = 0; i < node.parts.size(); i++) {
            Check.due("its part " + i + about, nodes.indexOf(node.parts.get(i)), x.node(n, 4 + i));
        }
        Check.due("a part more" + about, -1, x.node(n, 4 + node.parts.size()));
    }
}
