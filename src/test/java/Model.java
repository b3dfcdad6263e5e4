import java.util.ArrayList;
import java.util.Arrays;
import java.util.HashMap;
import java.util.List;
import java.util.Map;
import java.util.function.ToIntFunction;

/**
 * The document once more, written in another way and without a thought for speed or room: texts are
 * read into closures by exceptions, states are cloned whole, puzzles are tried out. The class is
 * compared with it call by call.
 */
final class Model {
    static final int NONE = -1;

    // ---- state ----

    static final class Officer {
        int boss;
        int pride;
        int weight = 1;
        java.util.TreeSet<Integer> cousins = new java.util.TreeSet<>();

        Officer cloned() {
            Officer o = new Officer();
            o.boss = boss;
            o.pride = pride;
            o.weight = weight;
            o.cousins.addAll(cousins);
            return o;
        }
    }

    static final class Apology {
        int from, to, at, size, how, began, waits;

        Apology cloned() {
            Apology a = new Apology();
            a.from = from;
            a.to = to;
            a.at = at;
            a.size = size;
            a.how = how;
            a.began = began;
            a.waits = waits;
            return a;
        }
    }

    static final class World {
        List<Apology> apologies = new ArrayList<>();
        int[] away = new int[10];
        int day = 0;
        int x = 181;
        List<int[]> book = new ArrayList<>();

        World cloned() {
            World w = new World();
            for (Apology a : apologies) {
                w.apologies.add(a.cloned());
            }
            w.away = away.clone();
            w.day = day;
            w.x = x;
            w.book.addAll(book);
            return w;
        }

        void write(int apology, int what) {
            book.add(new int[] {day, apology, what, apologies.get(apology).size});
            if (book.size() > 30) {
                book.remove(0);
            }
        }

        int draw() {
            int d = x;
            x = (x * 421 + 307) % 30539;
            return d;
        }
    }

    static final class Text {
        Map<String, ToIntFunction<Map<String, Integer>>> laws = new HashMap<>();
        List<Object[]> clauses = new ArrayList<>();
    }

    static final class All {
        List<Officer> officers = new ArrayList<>();
        World world = new World();
        List<World> steps = new ArrayList<>();
        List<Text> texts = new ArrayList<>();
        int ruling = NONE;
        List<Integer> pile = new ArrayList<>();
        int[][] costs = new int[2][5];
        List<int[]> added = new ArrayList<>();

        All cloned() {
            All a = new All();
            for (Officer o : officers) {
                a.officers.add(o.cloned());
            }
            a.world = world.cloned();
            for (World w : steps) {
                a.steps.add(w.cloned());
            }
            a.texts.addAll(texts);
            a.ruling = ruling;
            a.pile.addAll(pile);
            a.costs = new int[][] {costs[0].clone(), costs[1].clone()};
            a.added.addAll(added);
            return a;
        }
    }

    All all = new All();
    All image = new All();
    StringBuilder tape = new StringBuilder();
    int fault = NONE;
    int faultPlace = NONE;

    // ---- texts ----

    static final class Fault extends RuntimeException {
        private static final long serialVersionUID = 1;

        final int kind;
        final int place;

        Fault(int kind, int place) {
            this.kind = kind;
            this.place = place;
        }
    }

    /** A recursive reader that goes straight over the text's characters. */
    final class Source {
        final String s;
        int at = 0;
        String law = "";

        Source(String s) {
            this.s = s;
        }

        int begin() {
            while (at < s.length() && (s.charAt(at) == ' ' || s.charAt(at) == '\n')) {
                at++;
            }
            return at;
        }

        /** The token that comes, "" at the end. */
        String peek() {
            int i = begin();
            if (i == s.length()) {
                return "";
            }
            java.util.regex.Matcher m = java.util.regex.Pattern
                    .compile("[a-zA-Z]+|[0-9]+|<=|>=|[<>=#+\\-*/();]").matcher(s);
            m.region(i, s.length());
            return m.lookingAt() ? m.group() : s.substring(i, i + 1);
        }

        void take() {
            at += peek().length();
        }

        Fault fault(int kind) {
            return new Fault(kind, begin());
        }

        void need(String token) {
            if (!peek().equals(token)) {
                throw fault(1);
            }
            take();
        }

        int number(int low, int high) {
            String t = peek();
            if (!t.matches("[0-9]+")) {
                throw fault(1);
            }
            java.math.BigInteger v = new java.math.BigInteger(t);
            if (v.compareTo(java.math.BigInteger.valueOf(low)) < 0
                    || v.compareTo(java.math.BigInteger.valueOf(high)) > 0) {
                throw fault(2);
            }
            take();
            return v.intValue();
        }

        Text text() {
            Text text = new Text();
            while (!peek().isEmpty()) {
                String first = peek();
                if (!List.of("adds", "pardons", "wears", "officer", "cousin", "wrong", "away", "send", "day")
                        .contains(first)) {
                    throw fault(1);
                }
                if (text.laws.containsKey(first)) {
                    throw fault(4);
                }
                if (text.clauses.size() == 24) {
                    throw fault(6);
                }
                take();
                switch (first) {
                    case "officer": pair(text, first, 9, "under", 9); break;
                    case "cousin": case "send": pair(text, first, 9, "to", 9); break;
                    case "away": pair(text, first, 9, "days", 99); break;
                    case "day": text.clauses.add(new Object[] {first, number(1, 60)}); break;
                    case "wrong":
                        int a = number(0, 9);
                        need("to");
                        int b = number(0, 9);
                        need("size");
                        text.clauses.add(new Object[] {first, a, b, number(1, 9999)});
                        break;
                    default:
                        law = first;
                        text.clauses.add(new Object[] {first});
                        text.laws.put(first, sum(0));
                }
                need(";");
            }
            return text;
        }

        void pair(Text text, String first, int most, String between, int mostOther) {
            int a = number(0, most);
            need(between);
            text.clauses.add(new Object[] {first, a, number(0, mostOther)});
        }

        int in(long v) {
            return (int) Math.max(-1000000L, Math.min(1000000L, v));
        }

        ToIntFunction<Map<String, Integer>> sum(int open) {
            ToIntFunction<Map<String, Integer>> left = product(open);
            while (peek().equals("+") || peek().equals("-")) {
                boolean plus = peek().equals("+");
                take();
                ToIntFunction<Map<String, Integer>> l = left;
                ToIntFunction<Map<String, Integer>> r = product(open);
                left = e -> in((long) l.applyAsInt(e) + (plus ? 1 : -1) * (long) r.applyAsInt(e));
            }
            return left;
        }

        ToIntFunction<Map<String, Integer>> product(int open) {
            ToIntFunction<Map<String, Integer>> left = one(open);
            while (peek().equals("*") || peek().equals("/")) {
                boolean times = peek().equals("*");
                take();
                ToIntFunction<Map<String, Integer>> l = left;
                ToIntFunction<Map<String, Integer>> r = one(open);
                left = e -> {
                    long a = l.applyAsInt(e);
                    long b = r.applyAsInt(e);
                    return in(times ? a * b : b == 0 ? 0 : a / b);
                };
            }
            return left;
        }

        ToIntFunction<Map<String, Integer>> one(int open) {
            String t = peek();
            if (t.matches("[0-9]+")) {
                int v = number(0, 9999);
                return e -> v;
            }
            if (List.of("day", "size", "who", "pride", "rank", "from", "to", "days", "desk").contains(t)) {
                if (t.equals("days") && law.equals("wears") || t.equals("desk") && !law.equals("adds")) {
                    throw fault(5);
                }
                take();
                return e -> e.get(t);
            }
            if (!List.of("(", "-", "halves", "ranks", "if").contains(t)) {
                throw fault(1);
            }
            if (open == 8) {
                throw fault(3);
            }
            take();
            int in = open + 1;
            if (t.equals("(")) {
                ToIntFunction<Map<String, Integer>> inner = sum(in);
                need(")");
                return inner;
            }
            if (t.equals("if")) {
                ToIntFunction<Map<String, Integer>> cond = either(in);
                need("then");
                ToIntFunction<Map<String, Integer>> yes = sum(in);
                need("else");
                ToIntFunction<Map<String, Integer>> no = sum(in);
                need("end");
                return e -> cond.applyAsInt(e) == 1 ? yes.applyAsInt(e) : no.applyAsInt(e);
            }
            ToIntFunction<Map<String, Integer>> inner = one(in);
            if (t.equals("-")) {
                return e -> -inner.applyAsInt(e);
            }
            if (t.equals("ranks")) {
                return e -> {
                    int o = inner.applyAsInt(e);
                    return o >= 0 && o < all.officers.size() ? rank(o) : 0;
                };
            }
            need("by");
            ToIntFunction<Map<String, Integer>> times = one(in);
            return e -> {
                int v = inner.applyAsInt(e);
                int n = times.applyAsInt(e);
                for (int i = 0; i < n && v != 0; i++) {
                    v /= 2;
                }
                return v;
            };
        }

        ToIntFunction<Map<String, Integer>> either(int open) {
            ToIntFunction<Map<String, Integer>> left = both(open);
            while (peek().equals("or")) {
                take();
                ToIntFunction<Map<String, Integer>> l = left;
                ToIntFunction<Map<String, Integer>> r = both(open);
                left = e -> l.applyAsInt(e) | r.applyAsInt(e);
            }
            return left;
        }

        ToIntFunction<Map<String, Integer>> both(int open) {
            ToIntFunction<Map<String, Integer>> left = asked(open);
            while (peek().equals("and")) {
                take();
                ToIntFunction<Map<String, Integer>> l = left;
                ToIntFunction<Map<String, Integer>> r = asked(open);
                left = e -> l.applyAsInt(e) & r.applyAsInt(e);
            }
            return left;
        }

        ToIntFunction<Map<String, Integer>> asked(int open) {
            if (peek().equals("not")) {
                if (open == 8) {
                    throw fault(3);
                }
                take();
                ToIntFunction<Map<String, Integer>> inner = asked(open + 1);
                return e -> 1 - inner.applyAsInt(e);
            }
            ToIntFunction<Map<String, Integer>> l = sum(open);
            String how = peek();
            if (!List.of("<", "<=", ">", ">=", "=", "#").contains(how)) {
                throw fault(1);
            }
            take();
            ToIntFunction<Map<String, Integer>> r = sum(open);
            return e -> {
                int c = Integer.compare(l.applyAsInt(e), r.applyAsInt(e));
                boolean so = how.equals("<") ? c < 0 : how.equals("<=") ? c <= 0 : how.equals(">") ? c > 0
                        : how.equals(">=") ? c >= 0 : how.equals("=") ? c == 0 : c != 0;
                return so ? 1 : 0;
            };
        }
    }

    // ---- officers ----

    boolean isOfficer(int o) {
        return o >= 0 && o < all.officers.size();
    }

    /** One, its boss, the boss's boss, .. */
    List<Integer> chain(int o) {
        List<Integer> chain = new ArrayList<>();
        for (int i = o; i != NONE; i = all.officers.get(i).boss) {
            chain.add(i);
        }
        return chain;
    }

    int rank(int o) {
        return chain(o).size() - 1;
    }

    boolean above(int high, int low) {
        return high != low && chain(low).contains(high);
    }

    // ---- laws ----

    int law(String which, Text text, Map<String, Integer> names) {
        int most = which.equals("adds") ? 999 : which.equals("pardons") ? 10 : 9999;
        int v;
        if (text != null && text.laws.containsKey(which)) {
            v = text.laws.get(which).applyAsInt(names);
        } else {
            v = which.equals("adds") ? names.get("pride") + 1
                    : which.equals("pardons") ? 10 - names.get("pride") : names.get("size") / 2;
        }
        return Math.max(0, Math.min(most, v));
    }

    Map<String, Integer> names(int who, int from, int to, int size, int day) {
        Map<String, Integer> names = new HashMap<>();
        names.put("who", who);
        names.put("pride", all.officers.get(who).pride);
        names.put("rank", rank(who));
        names.put("from", from);
        names.put("to", to);
        names.put("size", size);
        names.put("day", day);
        names.put("days", 0);
        names.put("desk", 0);
        return names;
    }

    Text ruling() {
        return all.ruling == NONE ? null : all.texts.get(all.ruling);
    }

    int addsOf(int o, Text text) {
        return law("adds", text, names(o, o, 0, 10, all.world.day));
    }

    // ---- days ----

    int passDay(World w) {
        int done = 0;
        for (int i = 0; i < w.apologies.size(); i++) {
            Apology a = w.apologies.get(i);
            if (a.how == 2 || w.day < a.waits || w.day < w.away[a.at]) {
                continue;
            }
            if (a.how == 0) {
                int who = all.officers.get(a.at).boss;
                Map<String, Integer> names = names(who, a.from, a.to, a.size, w.day);
                names.put("days", w.day - a.began);
                int desk = 0;
                for (Apology b : w.apologies) {
                    desk += b.how != 2 && b.at == who ? 1 : 0;
                }
                names.put("desk", desk);
                a.size = Math.min(9999, a.size + law("adds", ruling(), names));
                a.at = who;
                if (who == a.to) {
                    names.put("size", a.size);
                    if (w.draw() % 10 < law("pardons", ruling(), names)) {
                        a.how = 1;
                        w.write(i, 0);
                    } else {
                        a.size = Math.min(9999, 2 * a.size);
                        a.at = a.from;
                        w.write(i, 1);
                    }
                }
            } else {
                List<Integer> chain = chain(a.from);
                int who = chain.get(chain.indexOf(a.at) - 1);
                a.size = law("wears", ruling(), names(who, a.from, a.to, a.size, w.day));
                a.at = who;
                if (who == a.from) {
                    a.how = 2;
                    done++;
                    w.write(i, 2);
                }
            }
        }
        for (int i = 0; i < w.apologies.size(); i++) {
            for (int j = i + 1; j < w.apologies.size(); j++) {
                Apology a = w.apologies.get(i);
                Apology b = w.apologies.get(j);
                if (a.how == 0 && b.how == 0 && a.to == b.to && a.at == b.at) {
                    a.size = Math.min(9999, Math.max(a.size, b.size) + Math.min(a.size, b.size) / 2);
                    b.size = 0;
                    b.how = 2;
                    done++;
                    w.write(j, 3);
                }
            }
        }
        w.day++;
        return done;
    }

    void step() {
        all.steps.add(all.world.cloned());
        if (all.steps.size() > 30) {
            all.steps.remove(0);
        }
    }

    // ---- the face ----

    int officer(int boss, int pride) {
        if (pride < 0 || pride > 9 || all.officers.size() == 10
                || (all.officers.isEmpty() ? boss != NONE : !isOfficer(boss))) {
            return NONE;
        }
        Officer o = new Officer();
        o.boss = boss;
        o.pride = pride;
        all.officers.add(o);
        return all.officers.size() - 1;
    }

    boolean cousin(int one, int other) {
        if (!isOfficer(one) || !isOfficer(other) || one == other
                || all.officers.get(one).cousins.contains(other)) {
            return false;
        }
        all.officers.get(one).cousins.add(other);
        all.officers.get(other).cousins.add(one);
        return true;
    }

    int feed(int... ints) {
        if (tape.length() + 20 > 300) {
            return NONE;
        }
        for (byte b : java.nio.ByteBuffer.allocate(20).putInt(ints[0]).putInt(ints[1]).putInt(ints[2])
                .putInt(ints[3]).putInt(ints[4]).array()) {
            tape.append((char) (b & 255));
        }
        return tape.length();
    }

    int end(int n) {
        if (n < 0 || n > tape.length()) {
            return NONE;
        }
        tape.setLength(n);
        return n;
    }

    int text() {
        if (all.texts.size() == 4) {
            return NONE;
        }
        String s = tape.toString();
        tape.setLength(0);
        try {
            all.texts.add(new Source(s).text());
            fault = 0;
            faultPlace = NONE;
            return all.texts.size() - 1;
        } catch (Fault f) {
            fault = f.kind;
            faultPlace = f.place;
            return NONE;
        }
    }

    int fault(int what) {
        return what == 0 ? fault : what == 1 ? faultPlace : NONE;
    }

    boolean by(int text) {
        if (text < NONE || text >= all.texts.size()) {
            return false;
        }
        all.ruling = text;
        return true;
    }

    boolean wrongFits(int from, int to) {
        return isOfficer(from) && isOfficer(to) && above(to, from) && all.world.apologies.size() < 10;
    }

    int begin(int from, int to, int size) {
        Apology a = new Apology();
        a.from = from;
        a.to = to;
        a.at = from;
        a.size = size;
        a.began = all.world.day;
        all.world.apologies.add(a);
        return all.world.apologies.size() - 1;
    }

    int wrong(int from, int to, int size) {
        if (!wrongFits(from, to) || size < 1 || size > 9999) {
            return NONE;
        }
        step();
        return begin(from, to, size);
    }

    boolean away(int officer, int days) {
        if (!isOfficer(officer) || days < 0 || days > 99) {
            return false;
        }
        step();
        all.world.away[officer] = days == 0 ? 0 : all.world.day + days;
        return true;
    }

    boolean sideways(int apology, int to) {
        if (!isApology(apology) || !isOfficer(to)) {
            return false;
        }
        Apology a = all.world.apologies.get(apology);
        if (a.how != 0 || all.world.day < a.waits || !all.officers.get(a.at).cousins.contains(to)
                || !above(a.to, to)) {
            return false;
        }
        step();
        a.at = to;
        a.waits = all.world.day + 2;
        return true;
    }

    boolean isApology(int a) {
        return a >= 0 && a < all.world.apologies.size();
    }

    int day(int n) {
        if (n < 1 || n > 60 || all.world.day + n > 9999) {
            return NONE;
        }
        int done = 0;
        for (int i = 0; i < n; i++) {
            step();
            done += passDay(all.world);
        }
        return done;
    }

    int played(int text) {
        if (text < 0 || text >= all.texts.size()) {
            return -2;
        }
        List<Object[]> clauses = all.texts.get(text).clauses;
        for (int i = 0; i < clauses.size(); i++) {
            Object[] c = clauses.get(i);
            boolean can = true;
            switch ((String) c[0]) {
                case "officer": can = officer((int) c[2], (int) c[1]) != NONE; break;
                case "cousin": can = cousin((int) c[1], (int) c[2]); break;
                case "wrong": can = wrong((int) c[1], (int) c[2], (int) c[3]) != NONE; break;
                case "away": can = away((int) c[1], (int) c[2]); break;
                case "send": can = sideways((int) c[1], (int) c[2]); break;
                case "day":
                    for (int d = 0; d < (int) c[1]; d++) {
                        can = can && day(1) != NONE;
                    }
                    break;
                default:
            }
            if (!can) {
                return i;
            }
        }
        return NONE;
    }

    int years(int seed, int n) {
        if (seed < 0 || seed > 9999 || n < 1 || n > 40) {
            return NONE;
        }
        step();
        World w = all.world;
        w.x = seed * 2 + 181;
        for (int i = 0; i < n; i++) {
            int x = w.draw();
            int officers = all.officers.size();
            if (x % 5 == 0) {
                if (officers > 0 && wrongFits(x % officers, 0)) {
                    begin(x % officers, 0, 1 + x % 20);
                }
            } else if (x % 5 == 1) {
                if (officers > 0) {
                    w.away[x % officers] = x % 4 == 0 ? 0 : w.day + x % 4;
                }
            } else if (w.day < 9999) {
                passDay(w);
            }
        }
        return w.day;
    }

    int undo() {
        if (all.steps.isEmpty()) {
            return NONE;
        }
        all.world = all.steps.remove(all.steps.size() - 1);
        return all.steps.size();
    }

    int of(int o, int what) {
        if (!isOfficer(o) || what < 0 || what > 7) {
            return -2;
        }
        int bits = 0;
        switch (what) {
            case 0: return all.officers.get(o).boss;
            case 1: return all.officers.get(o).pride;
            case 2: return rank(o);
            case 3: return all.world.away[o];
            case 4: return addsOf(o, ruling());
            case 5: return desk(o);
            case 6:
                for (int c : all.officers.get(o).cousins) {
                    bits |= 1 << c;
                }
                return bits;
            default:
                for (int i = 0; i < all.officers.size(); i++) {
                    bits |= chain(i).contains(o) ? 1 << i : 0;
                }
                return bits;
        }
    }

    int desk(int o) {
        return (int) all.world.apologies.stream().filter(a -> a.how != 2 && a.at == o).count();
    }

    static int of(Apology a, int what) {
        return new int[] {a.from, a.to, a.at, a.size, a.how, a.began, a.waits}[what];
    }

    int ofApology(int apology, int what) {
        return !isApology(apology) || what < 0 || what > 6 ? -2 : of(all.world.apologies.get(apology), what);
    }

    int is(int what) {
        return what == 0 ? all.world.day : what == 1 ? all.world.x : what == 2 ? all.world.apologies.size() : -2;
    }

    int book(int i, int what) {
        List<int[]> book = all.world.book;
        if (i == NONE) {
            return book.size();
        }
        return i < 0 || i >= book.size() || what < 0 || what > 3 ? -2 : book.get(i)[what];
    }

    int foretold(int n, int apology, int what) {
        if (n < 1 || n > 60 || !isApology(apology) || what < 0 || what > 2) {
            return NONE;
        }
        World w = all.world.cloned();
        for (int i = 0; i < n && w.day < 9999; i++) {
            passDay(w);
        }
        return of(w.apologies.get(apology), what + 2);
    }

    int pardoned(int apology) {
        if (!isApology(apology)) {
            return NONE;
        }
        World w = all.world.cloned();
        for (int i = 1; i <= 60 && w.day < 9999; i++) {
            int before = w.apologies.get(apology).how;
            passDay(w);
            if (before == 0 && w.apologies.get(apology).how == 1) {
                return i;
            }
        }
        return NONE;
    }

    int meets(int one, int other) {
        if (!isOfficer(one) || !isOfficer(other)) {
            return NONE;
        }
        List<Integer> chain = chain(one);
        chain.retainAll(chain(other));
        return chain.get(0);
    }

    int steps(int one, int other) {
        if (!isOfficer(one) || !isOfficer(other)) {
            return NONE;
        }
        int meet = meets(one, other);
        return chain(one).indexOf(meet) + chain(other).indexOf(meet);
    }

    // All simple ways are tried, the soonest or not.
    private List<Integer> bestWay;
    private int bestDays;
    private int bestSize;

    int route(int from, int to, int i) {
        if (!isOfficer(from) || !isOfficer(to) || !above(to, from)) {
            return -4;
        }
        bestWay = null;
        List<Integer> way = new ArrayList<>();
        way.add(from);
        tryWays(way, to, 0, 10);
        if (i == -2) {
            return bestDays;
        }
        if (i == -3) {
            return bestSize;
        }
        if (i == NONE) {
            return bestWay.size() - 1;
        }
        return i < 0 || i >= bestWay.size() - 1 ? -4 : bestWay.get(i + 1);
    }

    private void tryWays(List<Integer> way, int to, int days, int size) {
        int at = way.get(way.size() - 1);
        if (at == to) {
            boolean better = bestWay == null || days < bestDays || days == bestDays && (size < bestSize
                    || size == bestSize && Arrays.compare(way.stream().mapToInt(v -> v).toArray(),
                            bestWay.stream().mapToInt(v -> v).toArray()) < 0);
            if (better) {
                bestWay = new ArrayList<>(way);
                bestDays = days;
                bestSize = size;
            }
            return;
        }
        if (bestWay != null && days > bestDays) {
            return;
        }
        int boss = all.officers.get(at).boss;
        if (!way.contains(boss)) {
            way.add(boss);
            int more = law("adds", ruling(), names(boss, way.get(0), to, size, all.world.day));
            tryWays(way, to, days + 1, Math.min(9999, size + more));
            way.remove(way.size() - 1);
        }
        for (int c : all.officers.get(at).cousins) {
            if (above(to, c) && !way.contains(c)) {
                way.add(c);
                tryWays(way, to, days + 2, size);
                way.remove(way.size() - 1);
            }
        }
    }

    int pile(int size) {
        if (size == NONE) {
            all.pile.clear();
            return 0;
        }
        if (size < 1 || size > 999 || all.pile.size() == 8) {
            return -2;
        }
        all.pile.add(size);
        return all.pile.size();
    }

    List<Integer> sets(int total) {
        List<Integer> sets = new ArrayList<>();
        for (int set = 0; set < 1 << all.pile.size(); set++) {
            int sum = 0;
            for (int i = 0; i < all.pile.size(); i++) {
                sum += (set & 1 << i) != 0 ? all.pile.get(i) : 0;
            }
            if (sum == total) {
                sets.add(set);
            }
        }
        return sets;
    }

    int piles(int total, int what) {
        if (total < 0 || total > 9999 || what < 0 || what > 2) {
            return NONE;
        }
        List<Integer> sets = sets(total);
        if (sets.isEmpty() || what == 0) {
            return sets.size();
        }
        int inAll = -1;
        int inAny = 0;
        for (int set : sets) {
            inAll &= set;
            inAny |= set;
        }
        return what == 1 ? inAll : ~inAny & (1 << all.pile.size()) - 1;
    }

    int ask(int total) {
        if (total < 0 || total > 9999) {
            return NONE;
        }
        List<Integer> sets = sets(total);
        int found = NONE;
        double best = 1e9;
        for (int i = 0; i < all.pile.size(); i++) {
            int bit = i;
            long in = sets.stream().filter(s -> (s >> bit & 1) == 1).count();
            double off = Math.abs(in - sets.size() / 2.0);
            if (in != 0 && in != sets.size() && off < best) {
                best = off;
                found = i;
            }
        }
        return found;
    }

    long orders() {
        return orders(0);
    }

    private long orders(int promoted) {
        int n = all.officers.size();
        if (promoted == (1 << n) - 1) {
            return 1;
        }
        long sum = 0;
        for (int o = 0; o < n; o++) {
            int boss = all.officers.get(o).boss;
            if ((promoted >> o & 1) == 0 && (boss == NONE || (promoted >> boss & 1) == 1)) {
                sum += orders(promoted | 1 << o);
            }
        }
        return sum;
    }

    int first(int i) {
        List<Integer> order = new ArrayList<>();
        while (order.size() < all.officers.size()) {
            int best = NONE;
            for (int o = 0; o < all.officers.size(); o++) {
                int boss = all.officers.get(o).boss;
                if (!order.contains(o) && (boss == NONE || order.contains(boss))
                        && (best == NONE || all.officers.get(o).pride > all.officers.get(best).pride)) {
                    best = o;
                }
            }
            order.add(best);
        }
        return i < 0 || i >= order.size() ? NONE : order.get(i);
    }

    boolean weigh(int o, int weight) {
        if (!isOfficer(o) || weight < 0 || weight > 99) {
            return false;
        }
        all.officers.get(o).weight = weight;
        return true;
    }

    int apart(boolean sum) {
        int bestSet = 0;
        int most = 0;
        for (int set = 0; set < 1 << all.officers.size(); set++) {
            int weight = 0;
            boolean fits = true;
            for (int o = 0; o < all.officers.size(); o++) {
                if ((set >> o & 1) == 1) {
                    weight += all.officers.get(o).weight;
                    int boss = all.officers.get(o).boss;
                    fits &= boss == NONE || (set >> boss & 1) == 0;
                }
            }
            if (fits && weight > most) {
                most = weight;
                bestSet = set;
            }
        }
        return sum ? most : bestSet;
    }

    int middle() {
        int found = NONE;
        int least = 1000000;
        for (int o = 0; o < all.officers.size(); o++) {
            int sum = 0;
            for (int p = 0; p < all.officers.size(); p++) {
                sum += steps(o, p);
            }
            if (sum < least) {
                least = sum;
                found = o;
            }
        }
        return found;
    }

    int longest(boolean from) {
        int who = all.officers.isEmpty() ? NONE : 0;
        int most = 0;
        for (int o = 0; o < all.officers.size(); o++) {
            for (int p = 0; p < all.officers.size(); p++) {
                if (steps(o, p) > most) {
                    most = steps(o, p);
                    who = o;
                }
            }
        }
        return from ? who : most;
    }

    int parts(int gone) {
        if (!isOfficer(gone)) {
            return NONE;
        }
        int most = 0;
        for (int o = 0; o < all.officers.size(); o++) {
            int part = 0;
            for (int p = 0; p < all.officers.size(); p++) {
                part += hangTogether(o, p, gone) ? 1 : 0;
            }
            most = Math.max(most, part);
        }
        return most;
    }

    private boolean hangTogether(int o, int p, int gone) {
        int meet = meets(o, p);
        List<Integer> way = new ArrayList<>(chain(o).subList(0, chain(o).indexOf(meet) + 1));
        way.addAll(chain(p).subList(0, chain(p).indexOf(meet) + 1));
        return !way.contains(gone);
    }

    int deputies() {
        int best = 0;
        int fewest = 100;
        for (int set = 0; set < 1 << all.officers.size(); set++) {
            boolean fits = true;
            for (int o = 0; o < all.officers.size() && fits; o++) {
                int near = 1 << o;
                if (o > 0) {
                    near |= 1 << all.officers.get(o).boss;
                }
                for (int p = 0; p < all.officers.size(); p++) {
                    near |= all.officers.get(p).boss == o ? 1 << p : 0;
                }
                fits = (set & near) != 0;
            }
            if (fits && Integer.bitCount(set) < fewest) {
                fewest = Integer.bitCount(set);
                best = set;
            }
        }
        return best;
    }

    int ranked(int rank, boolean sizes) {
        if (rank < 0 || rank > 9) {
            return NONE;
        }
        int found = 0;
        for (int o = 0; o < all.officers.size(); o++) {
            if (rank(o) == rank) {
                found += 1;
            }
        }
        if (!sizes) {
            return found;
        }
        return all.world.apologies.stream().filter(a -> a.how != 2 && rank(a.at) == rank).mapToInt(a -> a.size).sum();
    }

    boolean owes(int one, int k, int cost) {
        if (one < 0 || one > 1 || k < 0 || k > 4 || cost < 0 || cost > 99) {
            return false;
        }
        all.costs[one][k] = cost;
        return true;
    }

    int play(int one, boolean last) {
        return one < 0 || one > 1 ? -2 : game(0, one, last)[2];
    }

    /** What 0 pays, what 1 pays, who bows. */
    private int[] game(int turn, int beginner, boolean last) {
        int other = 1 - beginner;
        int[] found = {0, 0, NONE};
        if (turn == 9) {
            found[last ? beginner : other] = 99;
            return found;
        }
        int mover = turn % 2 == 0 ? beginner : other;
        int cost = all.costs[mover][turn / 2];
        int[] waiting = game(turn + 1, beginner, last);
        if (waiting[mover] < cost) {
            return waiting;
        }
        found[mover] = cost;
        found[2] = mover;
        return found;
    }

    int added(int officer, int by) {
        if (officer == NONE) {
            all.added.clear();
            return 0;
        }
        if (!isOfficer(officer) || by < 0 || by > 999 || all.added.size() == 8) {
            return -2;
        }
        all.added.add(new int[] {officer, by});
        return all.added.size();
    }

    int whose() {
        int bits = 0;
        for (int t = 0; t < all.texts.size(); t++) {
            Text text = all.texts.get(t);
            bits |= all.added.stream().allMatch(a -> addsOf(a[0], text) == a[1]) ? 1 << t : 0;
        }
        return bits;
    }

    int stuck() {
        int found = NONE;
        for (int o = 0; o < all.officers.size(); o++) {
            if (desk(o) > (found == NONE ? 0 : desk(found))) {
                found = o;
            }
        }
        return found;
    }

    int eldest() {
        int found = NONE;
        for (int a = all.world.apologies.size() - 1; a >= 0; a--) {
            Apology it = all.world.apologies.get(a);
            if (it.how != 2 && (found == NONE || it.began <= all.world.apologies.get(found).began)) {
                found = a;
            }
        }
        return found;
    }

    int sorry(int officer) {
        if (officer != NONE && !isOfficer(officer)) {
            return -2;
        }
        return all.world.apologies.stream().filter(a -> a.how != 2 && (officer == NONE || a.from == officer))
                .mapToInt(a -> a.size).sum();
    }

    int befell(int what) {
        return what < 0 || what > 3 ? -2 : (int) all.world.book.stream().filter(n -> n[2] == what).count();
    }

    int image() {
        image = all.cloned();
        return all.world.day;
    }

    int back() {
        all = image.cloned();
        return all.world.day;
    }

    int about(int what) {
        return what < 0 || what > 6 ? -2 : new int[] {all.officers.size(), all.texts.size(), all.ruling,
            all.steps.size(), all.pile.size(), all.added.size(), tape.length()}[what];
    }
}
