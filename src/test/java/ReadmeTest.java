import java.io.IOException;
import java.nio.file.Files;
import java.nio.file.Path;
import java.util.List;

/** README.md: its examples, line by line, answer what they say there. Runs where README.md stands. */
public final class ReadmeTest {
    public static void main(String[] args) throws IOException {
        examples();
        examplesAreThoseOfTheReadme();
        everyCallIsTold();
        Check.finish();
    }

    private static void examples() {
        LogicText x = new LogicText();
        x.feed(0x70285829, 0x203A2D20, 0x71285829, 0x2C205820, 0x3C20312E);
        int length = x.end(20);           // 20: the text is "p(X) :- q(X), X < 1."
        int items = x.read();             // 1

        int sort = x.item(0, 0);          // 3, a clause
        int name = x.item(0, 1);          // 0, the number of p
        int letter = x.name(name, 0);     // 112, its one byte
        int term = x.part(0, 0, 0);       // 0, the node of the clause's first term, X
        int goal = x.item(0, 4);          // 1, the node of its goal
        int row = x.node(goal, 0);        // 23, a row
        int parts = x.node(goal, 2);      // 2, so its parts are
        int call = x.node(goal, 4);       // 2, the node of q(X), and
        int less = x.node(goal, 5);       // 4, that of X < 1
        int variable = x.find('X', 0);    // 1, the number of the name X
        Check.due("length", 20, length);
        Check.due("items", 1, items);
        Check.due("sort", 3, sort);
        Check.due("name", 0, name);
        Check.due("letter", 112, letter);
        Check.due("term", 0, term);
        Check.due("goal", 1, goal);
        Check.due("row", 23, row);
        Check.due("parts", 2, parts);
        Check.due("call", 2, call);
        Check.due("less", 4, less);
        Check.due("variable", 1, variable);
        fault(x);
        telling(x);
    }

    private static void fault(LogicText x) {
        x.feed(0x70203A2D, 0x20583D3D, 0x312E0000, 0, 0);
        x.end(10);                        // 10: the text is "p :- X==1."
        try {
            x.read();
            Check.due("read() throws", "a fault", "none");
        } catch (IllegalArgumentException e) {
            int number = x.fault(0);      // 4, a word that can't stand there:
            int place = x.fault(1);       // 7, the second =
            Check.due("number", 4, number);
            Check.due("place", 7, place);
        }
        int stays = x.count(0);           // 1, the item of the text before
        Check.due("stays", 1, stays);
    }

    private static void telling(LogicText x) {
        int bytes = x.tell(0);            // 20
        StringBuilder told = new StringBuilder();
        for (int i = 0; i < bytes; i++) {
            told.append((char) x.letter(i));
        }
        String text = told.toString();    // "p(X) :- q(X), X < 1."
        int behind = x.letter(bytes);     // -1, which is NONE
        Check.due("bytes", 20, bytes);
        Check.due("text", "p(X) :- q(X), X < 1.", text);
        Check.due("behind", LogicText.NONE, behind);
    }

    /** Each line of the README's examples stands above, in their order. */
    private static void examplesAreThoseOfTheReadme() throws IOException {
        List<String> own = Files.readAllLines(Path.of("src/test/java/ReadmeTest.java"));
        int at = 0;
        int lines = 0;
        boolean within = false;
        for (String line : Files.readAllLines(Path.of("README.md"))) {
            if (line.startsWith("```")) {
                within = line.equals("```java");
            } else if (within) {
                lines++;
                while (at < own.size() && !own.get(at).trim().equals(line.trim())) {
                    at++;
                }
                Check.due("the README's line is above: " + line, 1, at < own.size() ? 1 : 0);
                at++;
            }
        }
        Check.due("README.md has examples", 1, lines > 0 ? 1 : 0);
    }

    /** The README tells what each call of the face answers. */
    private static void everyCallIsTold() throws IOException {
        String readme = Files.readString(Path.of("README.md"));
        String[] calls = {"feed(a, b, c, d, e)", "end(n)", "read()", "fault(what)", "count(what)", "item(k, what)",
            "part(k, i, what)", "node(n, what)", "name(k, i)", "find(first, second)", "tell(k)", "letter(i)"};
        for (String call : calls) {
            Check.due("README.md tells " + call, 1, readme.contains("| `" + call + "` |") ? 1 : 0);
        }
    }
}
