import java.nio.charset.StandardCharsets;
import java.util.Random;

/** Runs of random calls, whose answers must be the model's. */
public final class ModelTest {
    private final Random random;
    private final TextMaker texts;
    private final ApologyUp up = new ApologyUp();
    private final Model model = new Model();
    private final String run;
    private int calls = 0;

    private ModelTest(long seed) {
        random = new Random(seed);
        texts = new TextMaker(random);
        run = "run " + seed + " call ";
    }

    public static void main(String[] args) {
        int runs = args.length > 0 ? Integer.parseInt(args[0]) : 1500;
        int from = args.length > 1 ? Integer.parseInt(args[1]) : 0;
        for (int seed = from; seed < from + runs; seed++) {
            new ModelTest(seed).go();
        }
        Checks.finish("ModelTest");
    }

    private void go() {
        int style = random.nextInt(4);
        if (style > 0) {
            int many = random.nextInt(11);
            int width = 1 + random.nextInt(4);
            for (int i = 0; i < many; i++) {
                int boss = i == 0 ? -1 : Math.max(0, i - 1 - random.nextInt(width));
                officer(boss, random.nextInt(10));
            }
            int cousins = random.nextInt(20);
            for (int i = 0; i < cousins; i++) {
                cousin(random.nextInt(10), random.nextInt(10));
            }
        }
        if (random.nextInt(8) == 0) {
            int days = 9999 - random.nextInt(100);
            while (model.all.world.day + 60 < days && calls < 400) {
                day(60);
            }
        }
        while (calls < 500) {
            if (random.nextInt(3) == 0) {
                change();
            } else {
                look();
            }
        }
    }

    private int any(int bound) {
        switch (random.nextInt(40)) {
            case 0: return -1 - random.nextInt(5);
            case 1: return bound + random.nextInt(3);
            case 2: return random.nextInt();
            case 3: return Integer.MIN_VALUE;
            case 4: return Integer.MAX_VALUE;
            default: return random.nextInt(bound);
        }
    }

    private void due(String call, long got, long want) {
        calls++;
        Checks.due(run + calls + ": " + call, got, want);
    }

    private void due(String call, boolean got, boolean want) {
        due(call, got ? 1 : 0, want ? 1 : 0);
    }

    private void officer(int boss, int pride) {
        due("officer", up.officer(boss, pride), model.officer(boss, pride));
    }

    private void cousin(int one, int other) {
        due("cousin", up.cousin(one, other), model.cousin(one, other));
    }

    private void day(int n) {
        due("day", up.day(n), model.day(n));
    }

    private void change() {
        switch (random.nextInt(20)) {
            case 0: officer(any(6), any(10)); break;
            case 1: cousin(any(10), any(10)); break;
            case 2: case 3: case 4: text(); break;
            case 5: int t = any(5) - 1; due("by", up.by(t), model.by(t)); break;
            case 6: case 7: case 8: wrong(); break;
            case 9: away(); break;
            case 10: sideways(); break;
            case 11: case 12: case 13: day(random.nextInt(5) == 0 ? any(61) : 1 + random.nextInt(3)); break;
            case 14: int p = any(4); due("played", up.played(p), model.played(p)); break;
            case 15: int s = any(10000); int n = any(41); due("years", up.years(s, n), model.years(s, n)); break;
            case 16: due("undo", up.undo(), model.undo()); break;
            case 17: puzzles(); break;
            case 18: int e = any(40); due("end", up.end(e), model.end(e)); break;
            default:
                if (random.nextInt(3) == 0) {
                    due("image", up.image(), model.image());
                } else if (random.nextInt(3) == 0) {
                    due("back", up.back(), model.back());
                }
        }
    }

    private void text() {
        String text;
        switch (random.nextInt(6)) {
            case 0: text = texts.spoilt(); break;
            case 1: text = texts.noise(); break;
            case 2: text = texts.deep(); break;
            default: text = texts.text();
        }
        byte[] bytes = text.getBytes(StandardCharsets.ISO_8859_1);
        if (random.nextInt(10) != 0) {
            due("end", up.end(0), model.end(0));
        }
        for (int at = 0; at < bytes.length; at += 20) {
            int[] w = new int[5];
            for (int i = 0; i < 20; i++) {
                w[i / 4] = w[i / 4] << 8 | (at + i < bytes.length ? bytes[at + i] & 255 : 0);
            }
            due("feed", up.feed(w[0], w[1], w[2], w[3], w[4]), model.feed(w));
        }
        due("end", up.end(bytes.length), model.end(bytes.length));
        due("text of " + text, up.text(), model.text());
        due("fault 0 of " + text, up.fault(0), model.fault(0));
        due("fault 1 of " + text, up.fault(1), model.fault(1));
    }

    private void wrong() {
        int from = any(10);
        int to = random.nextBoolean() ? 0 : any(6);
        int size = random.nextInt(3) == 0 ? any(10000) : 1 + random.nextInt(40);
        due("wrong", up.wrong(from, to, size), model.wrong(from, to, size));
    }

    private void away() {
        int officer = any(10);
        int days = random.nextInt(4) == 0 ? any(100) : random.nextInt(4);
        due("away", up.away(officer, days), model.away(officer, days));
    }

    private void sideways() {
        for (int i = 0; i < 6; i++) {
            int apology = any(10);
            int to = any(10);
            due("sideways", up.sideways(apology, to), model.sideways(apology, to));
        }
    }

    private void puzzles() {
        int a = any(10);
        int b = any(5);
        int c = any(100);
        int size = random.nextInt(12) == 0 ? -1 : random.nextInt(5) == 0 ? any(1000) : 1 + random.nextInt(9);
        int added = random.nextInt(12) == 0 ? -1 : a;
        int by = random.nextInt(3) == 0 || !model.isOfficer(a) ? any(1000) : model.of(a, 4);
        due("pile", up.pile(size), model.pile(size));
        due("weigh", up.weigh(a, c), model.weigh(a, c));
        due("owes", up.owes(a & 1, b, c), model.owes(a & 1, b, c));
        due("owes", up.owes(a, b, c), model.owes(a, b, c));
        due("added", up.added(added, by), model.added(added, by));
    }

    private void look() {
        int a = any(10);
        int b = any(10);
        int c = any(8);
        boolean d = random.nextBoolean();
        int total = random.nextInt(9) == 0 ? any(10000) : random.nextInt(40);
        switch (random.nextInt(33)) {
            case 0: int f = any(2); due("fault", up.fault(f), model.fault(f)); break;
            case 1: case 2: case 3: due("of " + a + " " + c, up.of(a, c), model.of(a, c)); break;
            case 4: case 5: case 6:
                due("ofApology " + a + " " + c, up.ofApology(a, c), model.ofApology(a, c)); break;
            case 7: due("is", up.is(c), model.is(c)); break;
            case 8: int i = any(31) - 1; due("book", up.book(i, b), model.book(i, b));
                due("book", up.book(i, c / 2), model.book(i, c / 2)); break;
            case 9: int n = any(61); due("foretold", up.foretold(n, a, c / 2), model.foretold(n, a, c / 2)); break;
            case 10: due("pardoned", up.pardoned(a), model.pardoned(a)); break;
            case 11: due("meets", up.meets(a, b), model.meets(a, b)); break;
            case 12: due("steps", up.steps(a, b), model.steps(a, b)); break;
            case 13: case 14: int to = d ? 0 : b;
                for (int j = -4; j < 10; j++) {
                    due("route " + a + " " + to + " " + j, up.route(a, to, j), model.route(a, to, j));
                }
                break;
            case 15: due("piles", up.piles(total, c / 2), model.piles(total, c / 2)); break;
            case 16: due("ask", up.ask(total), model.ask(total)); break;
            case 17: due("orders", up.orders(), model.orders()); break;
            case 18: due("first", up.first(a), model.first(a)); break;
            case 19: due("apart", up.apart(d), model.apart(d)); break;
            case 20: due("middle", up.middle(), model.middle()); break;
            case 21: due("longest", up.longest(d), model.longest(d)); break;
            case 22: due("parts", up.parts(a), model.parts(a)); break;
            case 23: due("deputies", up.deputies(), model.deputies()); break;
            case 24: due("ranked", up.ranked(a, d), model.ranked(a, d)); break;
            case 25: int one = any(2); due("play", up.play(one, d), model.play(one, d)); break;
            case 26: due("whose", up.whose(), model.whose()); break;
            case 27: due("stuck", up.stuck(), model.stuck()); break;
            case 28: due("eldest", up.eldest(), model.eldest()); break;
            case 29: due("sorry", up.sorry(a - 1), model.sorry(a - 1)); break;
            case 30: due("befell", up.befell(c), model.befell(c)); break;
            default: due("about", up.about(c), model.about(c));
        }
    }
}
