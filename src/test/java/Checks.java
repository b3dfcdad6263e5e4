import java.nio.charset.StandardCharsets;

/** What the tests share: comparing answers, and feeding a text. */
final class Checks {
    private static int wrong = 0;
    private static int looked = 0;
    // The case that is being run; its name stands ahead of what it says.
    private static String running = "";

    private Checks() {
    }

    static void due(String call, long got, long want) {
        looked++;
        if (got != want) {
            wrong++;
            if (wrong <= 50) {
                System.out.println(running + call + " answered " + got + ", due is " + want);
            }
        }
    }

    static void due(String call, boolean got, boolean want) {
        due(call, got ? 1 : 0, want ? 1 : 0);
    }

    static void due(String call, boolean got) {
        due(call, got, true);
    }

    static void running(String name) {
        running = name.isEmpty() ? "" : name + ": ";
    }

    static void finish(String name) {
        System.out.println(name + ": " + looked + " looked at, " + wrong + " wrong");
        if (wrong != 0) {
            System.exit(1);
        }
    }

    /** Puts the text on the tape, alone. */
    static void tape(ApologyUp up, String text) {
        byte[] bytes = text.getBytes(StandardCharsets.ISO_8859_1);
        up.end(0);
        int at = 0;
        while (at < bytes.length) {
            // The last feed of a text of up to 300 bytes always fits, for 300 is a multiple of 20.
            up.feed(four(bytes, at), four(bytes, at + 4), four(bytes, at + 8), four(bytes, at + 12),
                    four(bytes, at + 16));
            at += 20;
        }
        up.end(bytes.length);
    }

    static int read(ApologyUp up, String text) {
        tape(up, text);
        return up.text();
    }

    private static int four(byte[] bytes, int at) {
        int found = 0;
        for (int i = at; i < at + 4; i++) {
            found = found << 8 | (i < bytes.length ? bytes[i] & 255 : 0);
        }
        return found;
    }
}
