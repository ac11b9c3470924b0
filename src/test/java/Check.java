import java.nio.charset.StandardCharsets;

/** What the tests share: answers compared with those due, and texts fed whole. */
final class Check {
    /** What readText answers when read() throws. */
    static final int THROWN = -99;

    private static final long MOST_MILLISECONDS = 120_000;

    private static int wrong = 0;

    static {
        Thread watch = new Thread(Check::failWhenTooLong);
        watch.setDaemon(true);
        watch.start();
    }

    private Check() {
    }

    /** A call that never ends is a failed test, not one to wait for. */
    private static void failWhenTooLong() {
        try {
            Thread.sleep(MOST_MILLISECONDS);
        } catch (InterruptedException e) {
            return;
        }
        System.out.println("the test does not end");
        Runtime.getRuntime().halt(1);
    }

    static void due(String call, long want, long got) {
        if (got != want) {
            wrong++;
            System.out.println(shortened(call) + " answered " + got + ", due is " + want);
        }
    }

    static void due(String call, String want, String got) {
        if (!got.equals(want)) {
            wrong++;
            System.out.println(shortened(call) + " answered\n  " + got + "\ndue is\n  " + want);
        }
    }

    private static String shortened(String call) {
        int length = call.length();
        return length <= 200 ? call : call.substring(0, 120) + " .. " + call.substring(length - 70);
    }

    /** Puts a text behind the TEXT; what the last end() answered. */
    static int put(Used x, String text) {
        byte[] bytes = text.getBytes(StandardCharsets.ISO_8859_1);
        int answer = LogicText.NONE;
        for (int from = 0; from < bytes.length; from += 20) {
            int[] five = new int[5];
            int n = Math.min(20, bytes.length - from);
            for (int i = 0; i < n; i++) {
                five[i / 4] |= (bytes[from + i] & 255) << (24 - 8 * (i % 4));
            }
            x.feed(five[0], five[1], five[2], five[3], five[4]);
            answer = x.end(n);
        }
        return answer;
    }

    /** What read() answers, or THROWN. */
    static int read(Used x) {
        try {
            return x.read();
        } catch (IllegalArgumentException e) {
            return THROWN;
        }
    }

    static int read(Used x, String text) {
        put(x, text);
        return read(x);
    }

    /** A new object that has read a text without a fault. */
    static Used reads(String text) {
        Used x = new Used();
        int answer = read(x, text);
        due("fault(0) of " + text, 0, x.fault(0));
        due("fault(1) of " + text, LogicText.NONE, x.fault(1));
        due("read() of " + text, x.count(0), answer);
        return x;
    }

    /** A text with a fault of this number and place. */
    static void faulty(String text, int number, int place) {
        Used x = new Used();
        due("read() of " + text, THROWN, read(x, text));
        due("fault(0) of " + text, number, x.fault(0));
        due("fault(1) of " + text, place, x.fault(1));
        due("count(0) behind the fault of " + text, 0, x.count(0));
        due("count(1) behind the fault of " + text, 0, x.count(1));
        due("count(2) behind the fault of " + text, 0, x.count(2));
    }

    /** A text whose fault is at the @ in it, which is no part of it. */
    static void faultyAt(String marked, int number) {
        int place = marked.indexOf('@');
        faulty(marked.substring(0, place) + marked.substring(place + 1), number, place);
    }

    static String told(Used x, int k) {
        int length = x.tell(k);
        StringBuilder out = new StringBuilder();
        for (int i = 0; i < length; i++) {
            out.append((char) x.letter(i));
        }
        due("letter() behind OUT", LogicText.NONE, x.letter(length));
        return out.toString();
    }

    /** A name's bytes as a text. */
    static String name(Used x, int k) {
        StringBuilder out = new StringBuilder();
        for (int i = 0; x.name(k, i) != LogicText.NONE && i < 100; i++) {
            out.append((char) x.name(k, i));
        }
        return out.toString();
    }

    /** All that was read but the places. */
    static String all(Used x) {
        StringBuilder out = new StringBuilder();
        for (int k = 0; k < x.count(0); k++) {
            for (int what = 0; what < 5; what++) {
                out.append(x.item(k, what)).append(' ');
            }
            for (int i = 0; i < x.item(k, 2); i++) {
                for (int what = 0; what < 6; what++) {
                    out.append(x.part(k, i, what)).append(' ');
                }
            }
        }
        for (int n = 0; n < x.count(1); n++) {
            for (int what = 0; what < 4 + x.node(n, 2); what++) {
                out.append(what == 3 ? 0 : x.node(n, what)).append(' ');
            }
        }
        for (int k = 0; k < x.count(2); k++) {
            out.append(Check.name(x, k)).append(' ');
        }
        return out.toString();
    }

    /** A node and its parts: its sort, and in ( ) those of its parts. */
    static String shape(Used x, int n) {
        StringBuilder out = new StringBuilder();
        out.append(x.node(n, 0));
        for (int i = 0; i < x.node(n, 2); i++) {
            out.append(i == 0 ? "(" : " ").append(shape(x, x.node(n, 4 + i)));
        }
        return out.append(x.node(n, 2) > 0 ? ")" : "").toString();
    }

    /** The two numbers that find() takes for a name. */
    static int find(Used x, String name) {
        long[] two = new long[2];
        for (int i = 0; i < name.length(); i++) {
            two[i / 8] |= (long) name.charAt(i) << (56 - 8 * (i % 8));
        }
        return x.find(two[0], two[1]);
    }

    static void finish() {
        if (wrong != 0) {
            System.out.println(wrong + " answers are not as due");
            System.exit(1);
        }
    }
}
