import java.nio.charset.StandardCharsets;

/** What the tests share: answers compared with those due, and texts fed whole. */
final class Check {
    /** What readText answers when read() throws. */
    static final int THROWN = -99;

    private static int wrong = 0;

    private Check() {
    }

    static void due(String call, long want, long got) {
        if (got != want) {
            wrong++;
            System.out.println(call + " answered " + got + ", due is " + want);
        }
    }

    static void due(String call, String want, String got) {
        if (!got.equals(want)) {
            wrong++;
            System.out.println(call + " answered\n  " + got + "\ndue is\n  " + want);
        }
    }

    /** Puts a text behind the TEXT; what the last end() answered. */
    static int put(LogicText x, String text) {
        byte[] bytes = text.getBytes(StandardCharsets.ISO_8859_1);
        int answer = LogicText.NONE;
        for (int from = 0; from < bytes.length; from += 20) {
            int[] five = new int[5];
            int n = Math.min(20, bytes.length - from);
            for (int i = 0; i < n; i++) {
                five[i / 4] |= (bytes[from + i] & 255) << (24 - 8 * (i % 4));
            }
            x.feed(five[0], five[1], five[2], five[3], five[4]);
            answer = x.end(n);
        }
        return answer;
    }

    /** What read() answers, or THROWN. */
    static int read(LogicText x) {
        try {
            return x.read();
        } catch (IllegalArgumentException e) {
            return THROWN;
        }
    }

    static int read(LogicText x, String text) {
        put(x, text);
        return read(x);
    }

    /** A new object that has read a text without a fault. */
    static LogicText reads(String text) {
        LogicText x = new LogicText();
        int answer = read(x, text);
        due("fault(0) of " + text, 0, x.fault(0));
        due("fault(1) of " + text, LogicText.NONE, x.fault(1));
        due("read() of " + text, x.count(0), answer);
        return x;
    }

    /** A text with a fault of this number and place. */
    static void faulty(String text, int number, int place) {
        LogicText x = new LogicText();
        due("read() of " + text, THROWN, read(x, text));
        due("fault(0) of " + text, number, x.fault(0));
        due("fault(1) of " + text, place, x.fault(1));
        due("count(0) behind the fault of " + text, 0, x.count(0));
        due("count(1) behind the fault of " + text, 0, x.count(1));
        due("count(2) behind the fault of " + text, 0, x.count(2));
    }

    /** A text whose fault is at the @ in it, which is no part of it. */
    static void faultyAt(String marked, int number) {
        int place = marked.indexOf('@');
        faulty(marked.substring(0, place) + marked.substring(place + 1), number, place);
    }

    static String told(LogicText x, int k) {
        int length = x.tell(k);
        StringBuilder out = new StringBuilder();
        for (int i = 0; i < length; i++) {
            out.append((char) x.letter(i));
        }
        due("letter() behind OUT", LogicText.NONE, x.letter(length));
        return out.toString();
    }

    /** A name's bytes as a text. */
    static String name(LogicText x, int k) {
        StringBuilder out = new StringBuilder();
        for (int i = 0; x.name(k, i) != LogicText.NONE && i < 100; i++) {
            out.append((char) x.name(k, i));
        }
        return out.toString();
    }

    /** The two numbers that find() takes for a name. */
    static int find(LogicText x, String name) {
        long[] two = new long[2];
        for (int i = 0; i < name.length(); i++) {
            two[i / 8] |= (long) name.charAt(i) << (56 - 8 * (i % 8));
        }
        return x.find(two[0], two[1]);
    }

    static void finish() {
        if (wrong != 0) {
            System.out.println(wrong + " answers are not as due");
            System.exit(1);
        }
    }
}
