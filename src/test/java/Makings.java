/** Objects that the cases start from. */
final class Makings {
    static final int NONE = ApologyUp.NONE;
    static final int MIN = Integer.MIN_VALUE;
    static final int MAX = Integer.MAX_VALUE;

    private Makings() {
    }

    /** A chain of so many officers, each of that pride. */
    static ApologyUp chain(int many, int pride) {
        ApologyUp up = new ApologyUp();
        for (int i = 0; i < many; i++) {
            up.officer(i - 1, pride);
        }
        return up;
    }

    /** The first one, and so many others right below it, each of pride 0. */
    static ApologyUp star(int others) {
        ApologyUp up = chain(1, 0);
        for (int i = 0; i < others; i++) {
            up.officer(0, 0);
        }
        return up;
    }

    /** 0 above 1 and 2; 1 above 3 and 4; 2 above 5; each of pride 0. */
    static ApologyUp family() {
        ApologyUp up = star(2);
        up.officer(1, 0);
        up.officer(1, 0);
        up.officer(2, 0);
        return up;
    }

    /** The same object, ruled by that text. */
    static ApologyUp ruled(ApologyUp up, String text) {
        int number = Checks.read(up, text);
        Checks.due("reading " + text, number >= 0);
        Checks.due("ruling by " + text, up.by(number));
        return up;
    }

    /** The same object, so many days on. */
    static ApologyUp on(ApologyUp up, int days) {
        int left = days;
        while (left > 0) {
            int n = Math.min(left, 60);
            up.day(n);
            left -= n;
        }
        return up;
    }

    static String times(String part, int n) {
        return part.repeat(n);
    }
}
