import java.util.Random;

/** Makes texts at random: right ones, and spoilt ones. */
final class TextMaker {
    private static final String[] NAMES = {"day", "size", "who", "pride", "rank", "from", "to", "days", "desk"};
    private static final String[] ASKS = {"<", "<=", ">", ">=", "=", "#"};
    private static final String[] TOKENS = {"adds", "pardons", "wears", "officer", "under", "cousin", "to",
        "wrong", "size", "away", "days", "send", "day", "halves", "by", "ranks", "if", "then", "else", "end",
        "or", "and", "not", "who", "pride", "rank", "from", "desk", "<=", ">=", "<", ">", "=", "#", "+", "-",
        "*", "/", "(", ")", ";", "0", "1", "9", "10", "60", "61", "99", "100", "9999", "10000", "x", "Adds",
        "!", "\t", "\u00e9", "\u0000", "99999999999999999999"};

    private final Random random;

    TextMaker(Random random) {
        this.random = random;
    }

    String text() {
        String text = rightText();
        while (text.length() > 300) {
            text = rightText();
        }
        return text;
    }

    /** Up to 300 bytes with a token put in, left out or put in another's place. */
    String spoilt() {
        String[] parts = text().split("(?<=[^a-zA-Z0-9])|(?=[^a-zA-Z0-9])");
        int times = 1 + random.nextInt(2);
        for (int i = 0; i < times && parts.length > 0; i++) {
            int at = random.nextInt(parts.length);
            String token = TOKENS[random.nextInt(TOKENS.length)];
            switch (random.nextInt(3)) {
                case 0: parts[at] = ""; break;
                case 1: parts[at] = " " + token + " "; break;
                default: parts[at] = parts[at] + " " + token + " ";
            }
        }
        String text = String.join("", parts);
        if (random.nextInt(4) == 0 && !text.isEmpty()) {
            text = text.substring(0, random.nextInt(text.length()));
        }
        return text.length() > 300 ? text.substring(0, 300) : text;
    }

    /** Tokens without any sense. */
    String noise() {
        StringBuilder s = new StringBuilder();
        int many = random.nextInt(12);
        for (int i = 0; i < many; i++) {
            s.append(TOKENS[random.nextInt(TOKENS.length)]).append(random.nextBoolean() ? " " : "");
        }
        return s.toString();
    }

    /** One law alone, nested so deep that it may be too deep. */
    String deep() {
        String s = "adds " + one("adds", 3 + random.nextInt(9)) + ";";
        return s.length() > 300 ? "adds 1;" : s;
    }

    private String rightText() {
        StringBuilder s = new StringBuilder();
        boolean[] told = new boolean[3];
        int clauses = random.nextInt(random.nextInt(8) == 0 ? 27 : 8);
        for (int i = 0; i < clauses; i++) {
            int law = random.nextInt(5);
            if (law < 3 && (!told[law] || random.nextInt(30) == 0)) {
                told[law] = true;
                String name = TOKENS[law];
                s.append(name).append(" ").append(sum(name, 1 + random.nextInt(3))).append(";");
            } else {
                s.append(action());
            }
            s.append(random.nextInt(6) == 0 ? "\n" : "");
        }
        return s.toString();
    }

    private String action() {
        int few = random.nextInt(4) == 0 ? 10 : 4;
        switch (random.nextInt(7)) {
            case 0: return "officer " + random.nextInt(10) + " under " + random.nextInt(few) + ";";
            case 1: return "cousin " + random.nextInt(few) + " to " + random.nextInt(few) + ";";
            case 2: return "wrong " + random.nextInt(few) + " to 0 size " + (1 + random.nextInt(9999)) + ";";
            case 3: return "wrong " + random.nextInt(few) + " to " + random.nextInt(few) + " size "
                    + (1 + random.nextInt(40)) + ";";
            case 4: return "away " + random.nextInt(few) + " days " + random.nextInt(6) + ";";
            case 5: return "send " + random.nextInt(few) + " to " + random.nextInt(few) + ";";
            default: return "day " + (1 + random.nextInt(6)) + ";";
        }
    }

    private String sum(String law, int depth) {
        StringBuilder s = new StringBuilder(product(law, depth));
        while (random.nextInt(3) == 0) {
            s.append(random.nextBoolean() ? "+" : " - ").append(product(law, depth));
        }
        return s.toString();
    }

    private String product(String law, int depth) {
        StringBuilder s = new StringBuilder(one(law, depth));
        while (random.nextInt(4) == 0) {
            s.append(random.nextBoolean() ? "*" : "/").append(one(law, depth));
        }
        return s.toString();
    }

    private String one(String law, int depth) {
        int kind = depth <= 0 ? random.nextInt(2) : random.nextInt(7);
        switch (kind) {
            case 0: return "" + random.nextInt(random.nextInt(5) == 0 ? 10000 : 12);
            case 1:
                int names = law.equals("adds") ? 9 : law.equals("pardons") ? 8 : 7;
                return NAMES[random.nextInt(random.nextInt(60) == 0 ? 9 : names)];
            case 2: return "(" + sum(law, depth - 1) + ")";
            case 3: return "-" + one(law, depth - 1);
            case 4: return "halves " + one(law, depth - 1) + " by " + one(law, depth - 1);
            case 5: return "ranks " + one(law, depth - 1);
            default: return "if " + either(law, depth - 1) + " then " + sum(law, depth - 1) + " else "
                    + sum(law, depth - 1) + " end";
        }
    }

    private String either(String law, int depth) {
        StringBuilder s = new StringBuilder(both(law, depth));
        while (random.nextInt(4) == 0) {
            s.append(" or ").append(both(law, depth));
        }
        return s.toString();
    }

    private String both(String law, int depth) {
        StringBuilder s = new StringBuilder(asked(law, depth));
        while (random.nextInt(4) == 0) {
            s.append(" and ").append(asked(law, depth));
        }
        return s.toString();
    }

    private String asked(String law, int depth) {
        if (random.nextInt(4) == 0) {
            return "not " + asked(law, depth - 1);
        }
        return sum(law, depth) + ASKS[random.nextInt(6)] + sum(law, depth);
    }
}
