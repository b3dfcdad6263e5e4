import java.util.Arrays;

/** A service in which an apology goes up from rank to rank; see the project's document. */
public final class ApologyUp {
    /** None. */
    public static final int NONE = -1;

    private static final int NO_SUCH = -2;
    private static final int NO_ROUTE = -4;
    private static final int ROUTE_DAYS = -2;
    private static final int ROUTE_SIZE = -3;

    private static final int MOST_OFFICERS = 10;
    private static final int MOST_PRIDE = 9;
    private static final int MOST_WEIGHT = 99;
    private static final int MOST_APOLOGIES = 10;
    private static final int MOST_SIZE = 9999;
    private static final int LAST_DAY = 9999;
    private static final int MOST_AWAY = 99;
    private static final int MOST_DAYS = 60;
    private static final int MOST_STEPS = 30;
    private static final int MOST_NOTES = 30;
    private static final int MOST_TEXTS = 4;
    private static final int MOST_BYTES = 300;
    private static final int FED_BYTES = 20;
    private static final int MOST_CLAUSES = 24;
    private static final int MOST_OPEN = 8;
    private static final int MOST_NUMBER = 9999;
    private static final int MOST_VALUE = 1000000;
    private static final int MOST_PILED = 8;
    private static final int MOST_PILED_SIZE = 999;
    private static final int MOST_ADDED = 8;
    private static final int MOST_ADDED_BY = 999;
    private static final int MOST_SEED = 9999;
    private static final int MOST_DRAWS = 40;
    private static final int FIRST_X = 181;
    private static final int TURNS = 9;
    private static final int TURNS_OF_ONE = 5;
    private static final int LOST_PLAY = 99;
    private static final int LAW_SIZE = 10;

    // How an APOLOGY is.
    private static final int UP = 0;
    private static final int DOWN = 1;
    private static final int DONE = 2;

    // What the BOOK tells.
    private static final int NOTE_PARDONED = 0;
    private static final int NOTE_REFUSED = 1;
    private static final int NOTE_DONE = 2;
    private static final int NOTE_MERGED = 3;

    // CLAUSES; the first three are laws and number the laws of a Law, too.
    private static final int ADDS = 0;
    private static final int PARDONS = 1;
    private static final int WEARS = 2;
    private static final int LAWS = 3;
    private static final int TELL_OFFICER = 3;
    private static final int TELL_COUSIN = 4;
    private static final int DO_WRONG = 5;
    private static final int SEND_AWAY = 6;
    private static final int SEND_SIDEWAYS = 7;
    private static final int PASS_DAYS = 8;

    // NAMES of a law.
    private static final int NAME_DAY = 0;
    private static final int NAME_SIZE = 1;
    private static final int NAME_WHO = 2;
    private static final int NAME_PRIDE = 3;
    private static final int NAME_RANK = 4;
    private static final int NAME_FROM = 5;
    private static final int NAME_TO = 6;
    private static final int NAME_DAYS = 7;
    private static final int NAME_DESK = 8;
    private static final int NAMES = 9;

    // What a law's code does.
    private static final int PUSH = 0;
    private static final int LOOK_UP = 1;
    private static final int NEGATE = 2;
    private static final int RANK_OF = 3;
    private static final int TURN_ROUND = 4;
    private static final int SKIP = 5;
    private static final int SKIP_UNLESS = 6;
    private static final int PLUS = 7;
    private static final int MINUS = 8;
    private static final int TIMES = 9;
    private static final int OVER = 10;
    private static final int HALVE = 11;
    private static final int LESS = 12;
    private static final int AT_MOST = 13;
    private static final int MORE = 14;
    private static final int AT_LEAST = 15;
    private static final int ALIKE = 16;
    private static final int UNLIKE = 17;
    private static final int BOTH_TRUE = 18;
    private static final int ONE_TRUE = 19;

    // FAULTS of a text.
    private static final int CANT_STAND = 1;
    private static final int NO_SUCH_NUMBER = 2;
    private static final int TOO_DEEP = 3;
    private static final int LAW_TWICE = 4;
    private static final int NOT_ITS_NAME = 5;
    private static final int TOO_MANY_CLAUSES = 6;

    private final Service now = new Service();
    private final Service kept = new Service();
    private final World dream = new World();
    private final Machine machine = new Machine(now.staff);
    private final Clerk clerk = new Clerk(now.staff, machine);
    private final Tree tree = new Tree(now.staff);
    private final Pathfinder pathfinder = new Pathfinder(now.staff, machine);
    private final Reader reader = new Reader();
    private final char[] tape = new char[MOST_BYTES];
    private int taped = 0;

    /** Nobody is there yet, and this is THE IMAGE. */
    public ApologyUp() {
    }

    // ---- telling ----

    public int officer(int boss, int pride) {
        Staff staff = now.staff;
        boolean bossFits = staff.count == 0 ? boss == NONE : staff.has(boss);
        if (!bossFits || !within(pride, 0, MOST_PRIDE) || staff.count >= MOST_OFFICERS) {
            return NONE;
        }
        return staff.tell(boss, pride);
    }

    public boolean cousin(int one, int other) {
        Staff staff = now.staff;
        if (!staff.has(one) || !staff.has(other) || one == other || staff.areCousins(one, other)) {
            return false;
        }
        staff.cousins[one] |= 1 << other;
        staff.cousins[other] |= 1 << one;
        return true;
    }

    public int feed(int a, int b, int c, int d, int e) {
        if (taped + FED_BYTES > MOST_BYTES) {
            return NONE;
        }
        tapeFour(a);
        tapeFour(b);
        tapeFour(c);
        tapeFour(d);
        tapeFour(e);
        return taped;
    }

    private void tapeFour(int bytes) {
        for (int shift = 24; shift >= 0 && taped < MOST_BYTES; shift -= 8) {
            tape[taped] = (char) (bytes >>> shift & 255);
            taped++;
        }
    }

    public int end(int n) {
        if (!within(n, 0, taped)) {
            return NONE;
        }
        taped = n;
        return n;
    }

    public int text() {
        if (now.texts >= MOST_TEXTS) {
            return NONE;
        }
        reader.read(tape, taped, now.laws[now.texts]);
        taped = 0;
        if (reader.fault != 0) {
            return NONE;
        }
        now.texts++;
        return now.texts - 1;
    }

    public int fault(int what) {
        if (!reader.hasRead) {
            return NONE;
        }
        switch (what) {
            case 0: return reader.fault;
            case 1: return reader.faultPlace;
            default: return NONE;
        }
    }

    public boolean by(int text) {
        if (!within(text, NONE, now.texts - 1)) {
            return false;
        }
        now.ruling = text;
        return true;
    }

    // ---- what is done, and taken back ----

    public int wrong(int from, int to, int size) {
        if (!canWrong(from, to) || !within(size, 1, MOST_SIZE)) {
            return NONE;
        }
        now.keep();
        return now.world.begin(from, to, size);
    }

    private boolean canWrong(int from, int to) {
        Staff staff = now.staff;
        return staff.has(from) && staff.has(to) && staff.isAbove(to, from)
                && now.world.count < MOST_APOLOGIES;
    }

    public boolean away(int officer, int days) {
        if (!now.staff.has(officer) || !within(days, 0, MOST_AWAY)) {
            return false;
        }
        now.keep();
        now.world.leave(officer, days);
        return true;
    }

    public boolean sideways(int apology, int to) {
        Staff staff = now.staff;
        World world = now.world;
        if (!world.has(apology) || !staff.has(to) || world.how[apology] != UP || world.isWaiting(apology)
                || !staff.areCousins(world.at[apology], to) || !staff.isAbove(world.to[apology], to)) {
            return false;
        }
        now.keep();
        world.at[apology] = to;
        world.waits[apology] = world.day + 2;
        return true;
    }

    public int day(int n) {
        if (!within(n, 1, MOST_DAYS) || now.world.day + n > LAST_DAY) {
            return NONE;
        }
        return passDays(n);
    }

    /** Those of n DAYS that can pass do, each a STEP: how many are done with in them. */
    private int passDays(int n) {
        World world = now.world;
        int done = 0;
        for (int i = 0; i < n && world.day < LAST_DAY; i++) {
            now.keep();
            done += clerk.pass(world, now.law());
        }
        return done;
    }

    public int played(int text) {
        if (!within(text, 0, now.texts - 1)) {
            return NO_SUCH;
        }
        Law script = now.laws[text];
        for (int i = 0; i < script.clauses; i++) {
            if (!canPerform(script, i)) {
                return i;
            }
        }
        return NONE;
    }

    /** Performs the clause as by hand: whether it could be. */
    private boolean canPerform(Law script, int clause) {
        int one = script.one[clause];
        int other = script.other[clause];
        switch (script.kind[clause]) {
            case TELL_OFFICER: return officer(other, one) != NONE;
            case TELL_COUSIN: return cousin(one, other);
            case DO_WRONG: return wrong(one, other, script.size[clause]) != NONE;
            case SEND_AWAY: return away(one, other);
            case SEND_SIDEWAYS: return sideways(one, other);
            case PASS_DAYS:
                boolean all = now.world.day + one <= LAST_DAY;
                passDays(one);
                return all;
            default: return true;
        }
    }

    public int years(int seed, int n) {
        if (!within(seed, 0, MOST_SEED) || !within(n, 1, MOST_DRAWS)) {
            return NONE;
        }
        World world = now.world;
        now.keep();
        world.x = seed * 2 + FIRST_X;
        for (int i = 0; i < n; i++) {
            befallBy(world.draw());
        }
        return world.day;
    }

    /** What a draw of YEARS brings, where it can be. */
    private void befallBy(int x) {
        World world = now.world;
        int officers = now.staff.count;
        int drawn = officers == 0 ? NONE : x % officers;
        switch (x % 5) {
            case 0:
                if (canWrong(drawn, 0)) {
                    world.begin(drawn, 0, 1 + x % 20);
                }
                break;
            case 1:
                if (now.staff.has(drawn)) {
                    world.leave(drawn, x % 4);
                }
                break;
            default:
                if (world.day < LAST_DAY) {
                    clerk.pass(world, now.law());
                }
        }
    }

    public int undo() {
        if (now.steps == 0) {
            return NONE;
        }
        now.takeBack();
        return now.steps;
    }

    // ---- how all is ----

    public int of(int officer, int what) {
        Staff staff = now.staff;
        if (!staff.has(officer)) {
            return NO_SUCH;
        }
        switch (what) {
            case 0: return staff.boss[officer];
            case 1: return staff.pride[officer];
            case 2: return staff.rank[officer];
            case 3: return now.world.away[officer];
            case 4: return addsOf(officer, now.law());
            case 5: return now.world.desk(officer);
            case 6: return staff.cousins[officer];
            case 7: return staff.bitsBelow(officer);
            default: return NO_SUCH;
        }
    }

    /** What the OFFICER adds by that law, as WHOSE LAW tells it. */
    private int addsOf(int officer, Law law) {
        machine.name(officer, officer, 0);
        machine.names[NAME_SIZE] = LAW_SIZE;
        machine.names[NAME_DAY] = now.world.day;
        machine.names[NAME_DAYS] = 0;
        machine.names[NAME_DESK] = 0;
        return machine.value(law, ADDS);
    }

    public int ofApology(int apology, int what) {
        World world = now.world;
        if (!world.has(apology)) {
            return NO_SUCH;
        }
        switch (what) {
            case 0: return world.from[apology];
            case 1: return world.to[apology];
            case 2: return world.at[apology];
            case 3: return world.size[apology];
            case 4: return world.how[apology];
            case 5: return world.began[apology];
            case 6: return world.waits[apology];
            default: return NO_SUCH;
        }
    }

    public int is(int what) {
        switch (what) {
            case 0: return now.world.day;
            case 1: return now.world.x;
            case 2: return now.world.count;
            default: return NO_SUCH;
        }
    }

    public int book(int i, int what) {
        World world = now.world;
        if (i == NONE) {
            return world.notes;
        }
        if (!within(i, 0, world.notes - 1) || !within(what, 0, World.NOTE_CELLS - 1)) {
            return NO_SUCH;
        }
        return world.book[i * World.NOTE_CELLS + what];
    }

    public int foretold(int n, int apology, int what) {
        if (!within(n, 1, MOST_DAYS) || !now.world.has(apology)) {
            return NONE;
        }
        dream.copy(now.world);
        // What is done with stays as it is, whatever else goes on.
        for (int i = 0; i < n && dream.day < LAST_DAY && dream.how[apology] != DONE; i++) {
            clerk.pass(dream, now.law());
        }
        switch (what) {
            case 0: return dream.at[apology];
            case 1: return dream.size[apology];
            case 2: return dream.how[apology];
            default: return NONE;
        }
    }

    public int pardoned(int apology) {
        if (!now.world.has(apology)) {
            return NONE;
        }
        dream.copy(now.world);
        for (int i = 1; i <= MOST_DAYS && dream.day < LAST_DAY && dream.how[apology] == UP; i++) {
            clerk.pass(dream, now.law());
            if (dream.how[apology] == DOWN) {
                return i;
            }
        }
        return NONE;
    }

    public int meets(int one, int other) {
        if (!now.staff.has(one) || !now.staff.has(other)) {
            return NONE;
        }
        return now.staff.meeting(one, other);
    }

    public int steps(int one, int other) {
        if (!now.staff.has(one) || !now.staff.has(other)) {
            return NONE;
        }
        return now.staff.distance(one, other);
    }

    public int route(int from, int to, int i) {
        Staff staff = now.staff;
        if (!staff.has(from) || !staff.has(to) || !staff.isAbove(to, from)) {
            return NO_ROUTE;
        }
        pathfinder.find(from, to, now.law(), now.world.day);
        switch (i) {
            case ROUTE_DAYS: return pathfinder.days[from];
            case ROUTE_SIZE: return pathfinder.bestSize;
            case NONE: return pathfinder.bestSteps;
            default: return within(i, 0, pathfinder.bestSteps - 1) ? pathfinder.best[i] : NO_ROUTE;
        }
    }

    // ---- puzzles ----

    public int pile(int size) {
        if (size == NONE) {
            now.pile.count = 0;
            return 0;
        }
        if (!within(size, 1, MOST_PILED_SIZE) || now.pile.count >= MOST_PILED) {
            return NO_SUCH;
        }
        return now.pile.put(size);
    }

    public int piles(int total, int what) {
        if (!within(total, 0, MOST_NUMBER)) {
            return NONE;
        }
        Pile pile = now.pile;
        pile.countSets(total);
        switch (what) {
            case 0: return pile.sets;
            case 1: return pile.sets == 0 ? 0 : pile.bitsIn(pile.sets);
            case 2: return pile.sets == 0 ? 0 : pile.bitsIn(0);
            default: return NONE;
        }
    }

    public int ask(int total) {
        if (!within(total, 0, MOST_NUMBER)) {
            return NONE;
        }
        now.pile.countSets(total);
        return now.pile.nearestToHalf();
    }

    public long orders() {
        return tree.promotions();
    }

    public int first(int i) {
        return within(i, 0, now.staff.count - 1) ? tree.promotedAt(i) : NONE;
    }

    public boolean weigh(int officer, int weight) {
        if (!now.staff.has(officer) || !within(weight, 0, MOST_WEIGHT)) {
            return false;
        }
        now.staff.weight[officer] = weight;
        return true;
    }

    public int apart(boolean sum) {
        int set = tree.heaviestApart();
        return sum ? tree.weightOf(set) : set;
    }

    public int middle() {
        return tree.nearestToAll();
    }

    public int longest(boolean from) {
        return from ? tree.farEnd() : tree.diameter();
    }

    public int parts(int officer) {
        return now.staff.has(officer) ? tree.greatestPart(officer) : NONE;
    }

    public int deputies() {
        return tree.fewestDeputies();
    }

    public int ranked(int rank, boolean sizes) {
        if (!within(rank, 0, MOST_OFFICERS - 1)) {
            return NONE;
        }
        int found = 0;
        for (int officer = 0; officer < now.staff.count; officer++) {
            if (now.staff.rank[officer] == rank) {
                found += sizes ? now.world.sizesAt(officer) : 1;
            }
        }
        return found;
    }

    public boolean owes(int one, int k, int cost) {
        if (!within(one, 0, 1) || !within(k, 0, TURNS_OF_ONE - 1) || !within(cost, 0, LOST_PLAY)) {
            return false;
        }
        now.costs[one * TURNS_OF_ONE + k] = cost;
        return true;
    }

    public int play(int one, boolean last) {
        if (!within(one, 0, 1)) {
            return NO_SUCH;
        }
        int bower = NONE;
        // What each is going to pay, looked at from the last turn backwards.
        int starterPays = last ? LOST_PLAY : 0;
        int otherPays = last ? 0 : LOST_PLAY;
        for (int turn = TURNS - 1; turn >= 0; turn--) {
            boolean starters = turn % 2 == 0;
            int mover = starters ? one : 1 - one;
            int cost = now.costs[mover * TURNS_OF_ONE + turn / 2];
            if (cost <= (starters ? starterPays : otherPays)) {
                bower = mover;
                starterPays = starters ? cost : 0;
                otherPays = starters ? 0 : cost;
            }
        }
        return bower;
    }

    public int added(int officer, int by) {
        if (officer == NONE) {
            now.addeds = 0;
            return 0;
        }
        if (!now.staff.has(officer) || !within(by, 0, MOST_ADDED_BY) || now.addeds >= MOST_ADDED) {
            return NO_SUCH;
        }
        now.addedOfficer[now.addeds] = officer;
        now.addedBy[now.addeds] = by;
        now.addeds++;
        return now.addeds;
    }

    public int whose() {
        int bits = 0;
        for (int text = 0; text < now.texts; text++) {
            if (explainsAdded(now.laws[text])) {
                bits |= 1 << text;
            }
        }
        return bits;
    }

    private boolean explainsAdded(Law law) {
        for (int i = 0; i < now.addeds; i++) {
            if (addsOf(now.addedOfficer[i], law) != now.addedBy[i]) {
                return false;
            }
        }
        return true;
    }

    public int stuck() {
        int found = NONE;
        int most = 0;
        for (int officer = 0; officer < now.staff.count; officer++) {
            int desk = now.world.desk(officer);
            if (desk > most) {
                most = desk;
                found = officer;
            }
        }
        return found;
    }

    public int eldest() {
        World world = now.world;
        int found = NONE;
        for (int a = 0; a < world.count; a++) {
            if (world.how[a] != DONE && (found == NONE || world.began[a] < world.began[found])) {
                found = a;
            }
        }
        return found;
    }

    public int sorry(int officer) {
        if (officer != NONE && !now.staff.has(officer)) {
            return NO_SUCH;
        }
        World world = now.world;
        int sizes = 0;
        for (int a = 0; a < world.count; a++) {
            if (world.how[a] != DONE && (officer == NONE || world.from[a] == officer)) {
                sizes += world.size[a];
            }
        }
        return sizes;
    }

    public int befell(int what) {
        return within(what, NOTE_PARDONED, NOTE_MERGED) ? now.world.notesOf(what) : NO_SUCH;
    }

    // ---- the image ----

    public int image() {
        kept.copy(now);
        return now.world.day;
    }

    public int back() {
        now.copy(kept);
        return now.world.day;
    }

    public int about(int what) {
        switch (what) {
            case 0: return now.staff.count;
            case 1: return now.texts;
            case 2: return now.ruling;
            case 3: return now.steps;
            case 4: return now.pile.count;
            case 5: return now.addeds;
            case 6: return taped;
            default: return NO_SUCH;
        }
    }

    private static boolean within(int value, int low, int high) {
        return value >= low && value <= high;
    }

    /** All that an IMAGE holds. */
    private static final class Service {
        final Staff staff = new Staff();
        final World world = new World();
        // The worlds ahead of the latest STEPS, in a ring.
        private final World[] before = new World[MOST_STEPS];
        private int nextStep = 0;
        int steps = 0;
        final Law[] laws = new Law[MOST_TEXTS];
        int texts = 0;
        int ruling = NONE;
        final Pile pile = new Pile();
        final int[] costs = new int[2 * TURNS_OF_ONE];
        int addeds = 0;
        final int[] addedOfficer = new int[MOST_ADDED];
        final int[] addedBy = new int[MOST_ADDED];

        Service() {
            for (int i = 0; i < MOST_TEXTS; i++) {
                laws[i] = new Law();
            }
            for (int i = 0; i < MOST_STEPS; i++) {
                before[i] = new World();
            }
        }

        /** Keeps the world as it is ahead of a STEP. */
        void keep() {
            before[nextStep].copy(world);
            nextStep = (nextStep + 1) % MOST_STEPS;
            steps = Math.min(steps + 1, MOST_STEPS);
        }

        void takeBack() {
            if (steps > 0) {
                nextStep = (nextStep + MOST_STEPS - 1) % MOST_STEPS;
                world.copy(before[nextStep]);
                steps--;
            }
        }

        /** THE TEXT; null: none rules. */
        Law law() {
            return within(ruling, 0, texts - 1) ? laws[ruling] : null;
        }

        void copy(Service other) {
            staff.copy(other.staff);
            world.copy(other.world);
            for (int i = 0; i < MOST_STEPS; i++) {
                before[i].copy(other.before[i]);
            }
            nextStep = other.nextStep;
            steps = other.steps;
            for (int i = 0; i < MOST_TEXTS; i++) {
                laws[i].copy(other.laws[i]);
            }
            texts = other.texts;
            ruling = other.ruling;
            pile.copy(other.pile);
            System.arraycopy(other.costs, 0, costs, 0, costs.length);
            addeds = other.addeds;
            System.arraycopy(other.addedOfficer, 0, addedOfficer, 0, MOST_ADDED);
            System.arraycopy(other.addedBy, 0, addedBy, 0, MOST_ADDED);
        }
    }

    /** The OFFICERS; a BOSS always has a lower number than those below it. */
    private static final class Staff {
        int count = 0;
        final int[] boss = new int[MOST_OFFICERS];
        final int[] pride = new int[MOST_OFFICERS];
        final int[] rank = new int[MOST_OFFICERS];
        final int[] cousins = new int[MOST_OFFICERS];
        final int[] weight = new int[MOST_OFFICERS];

        void copy(Staff other) {
            count = other.count;
            System.arraycopy(other.boss, 0, boss, 0, MOST_OFFICERS);
            System.arraycopy(other.pride, 0, pride, 0, MOST_OFFICERS);
            System.arraycopy(other.rank, 0, rank, 0, MOST_OFFICERS);
            System.arraycopy(other.cousins, 0, cousins, 0, MOST_OFFICERS);
            System.arraycopy(other.weight, 0, weight, 0, MOST_OFFICERS);
        }

        boolean has(int officer) {
            return officer >= 0 && officer < count;
        }

        int tell(int itsBoss, int itsPride) {
            if (count >= MOST_OFFICERS) {
                return NONE;
            }
            boss[count] = itsBoss;
            pride[count] = itsPride;
            rank[count] = has(itsBoss) ? rank[itsBoss] + 1 : 0;
            cousins[count] = 0;
            weight[count] = 1;
            count++;
            return count - 1;
        }

        boolean areCousins(int one, int other) {
            return (cousins[one] >> other & 1) == 1;
        }

        boolean isAbove(int high, int low) {
            return high != low && isAboveOrSame(high, low);
        }

        /** Those above have lower numbers, so the climb ends at high or has passed it by. */
        private boolean isAboveOrSame(int high, int low) {
            int at = low;
            for (int n = 0; n < MOST_OFFICERS && at > high; n++) {
                at = boss[at];
            }
            return at == high;
        }

        int meeting(int one, int other) {
            int at = one;
            for (int n = 0; n < MOST_OFFICERS && at > 0 && !isAboveOrSame(at, other); n++) {
                at = boss[at];
            }
            return at;
        }

        int distance(int one, int other) {
            return rank[one] + rank[other] - 2 * rank[meeting(one, other)];
        }

        /** The one right below high on the way down to low, which high is above. */
        int stepDown(int high, int low) {
            int at = low;
            for (int n = 0; n < MOST_OFFICERS && boss[at] > high; n++) {
                at = boss[at];
            }
            return at;
        }

        int bitsBelow(int officer) {
            int bits = 0;
            for (int i = officer; i < count; i++) {
                if (isAboveOrSame(officer, i)) {
                    bits |= 1 << i;
                }
            }
            return bits;
        }
    }

    /** What a STEP may change: APOLOGIES, AWAY, DAY, X and the BOOK. */
    private static final class World {
        static final int NOTE_CELLS = 4;

        int day = 0;
        int x = FIRST_X;
        int count = 0;
        final int[] from = new int[MOST_APOLOGIES];
        final int[] to = new int[MOST_APOLOGIES];
        final int[] at = new int[MOST_APOLOGIES];
        final int[] size = new int[MOST_APOLOGIES];
        final int[] how = new int[MOST_APOLOGIES];
        final int[] began = new int[MOST_APOLOGIES];
        final int[] waits = new int[MOST_APOLOGIES];
        final int[] away = new int[MOST_OFFICERS];
        int notes = 0;
        final int[] book = new int[MOST_NOTES * NOTE_CELLS];

        void copy(World other) {
            day = other.day;
            x = other.x;
            count = other.count;
            System.arraycopy(other.from, 0, from, 0, MOST_APOLOGIES);
            System.arraycopy(other.to, 0, to, 0, MOST_APOLOGIES);
            System.arraycopy(other.at, 0, at, 0, MOST_APOLOGIES);
            System.arraycopy(other.size, 0, size, 0, MOST_APOLOGIES);
            System.arraycopy(other.how, 0, how, 0, MOST_APOLOGIES);
            System.arraycopy(other.began, 0, began, 0, MOST_APOLOGIES);
            System.arraycopy(other.waits, 0, waits, 0, MOST_APOLOGIES);
            System.arraycopy(other.away, 0, away, 0, MOST_OFFICERS);
            notes = other.notes;
            System.arraycopy(other.book, 0, book, 0, book.length);
        }

        boolean has(int apology) {
            return apology >= 0 && apology < count;
        }

        int begin(int itsFrom, int itsTo, int itsSize) {
            if (count >= MOST_APOLOGIES) {
                return NONE;
            }
            from[count] = itsFrom;
            to[count] = itsTo;
            at[count] = itsFrom;
            size[count] = itsSize;
            how[count] = UP;
            began[count] = day;
            waits[count] = 0;
            count++;
            return count - 1;
        }

        void leave(int officer, int days) {
            away[officer] = days == 0 ? 0 : day + days;
        }

        boolean isWaiting(int apology) {
            return day < waits[apology];
        }

        boolean moves(int apology) {
            return how[apology] != DONE && !isWaiting(apology) && day >= away[at[apology]];
        }

        /** X as it is; X is the next one then. */
        int draw() {
            int drawn = x;
            x = (x * 421 + 307) % 30539;
            return drawn;
        }

        int desk(int officer) {
            int found = 0;
            for (int a = 0; a < count; a++) {
                if (how[a] != DONE && at[a] == officer) {
                    found++;
                }
            }
            return found;
        }

        int sizesAt(int officer) {
            int sizes = 0;
            for (int a = 0; a < count; a++) {
                if (how[a] != DONE && at[a] == officer) {
                    sizes += size[a];
                }
            }
            return sizes;
        }

        void write(int apology, int what) {
            if (notes == MOST_NOTES) {
                notes--;
                System.arraycopy(book, NOTE_CELLS, book, 0, notes * NOTE_CELLS);
            }
            int cell = notes * NOTE_CELLS;
            book[cell] = day;
            book[cell + 1] = apology;
            book[cell + 2] = what;
            book[cell + 3] = size[apology];
            notes++;
        }

        int notesOf(int what) {
            int found = 0;
            for (int i = 0; i < notes; i++) {
                if (book[i * NOTE_CELLS + 2] == what) {
                    found++;
                }
            }
            return found;
        }
    }

    /** Makes a DAY pass in a world. */
    private static final class Clerk {
        final Staff staff;
        final Machine machine;

        Clerk(Staff staff, Machine machine) {
            this.staff = staff;
            this.machine = machine;
        }

        /** How many are done with in that DAY. */
        int pass(World world, Law law) {
            int done = 0;
            for (int a = 0; a < world.count; a++) {
                if (!world.moves(a)) {
                    continue;
                }
                if (world.how[a] == UP) {
                    goUp(world, a, law);
                } else {
                    done += goDown(world, a, law);
                }
            }
            done += merge(world);
            world.day++;
            return done;
        }

        private void goUp(World world, int a, Law law) {
            int who = staff.boss[world.at[a]];
            if (!staff.has(who)) {
                return;
            }
            nameFor(world, a, who);
            machine.names[NAME_DESK] = world.desk(who);
            world.size[a] = Math.min(world.size[a] + machine.value(law, ADDS), MOST_SIZE);
            world.at[a] = who;
            if (who != world.to[a]) {
                return;
            }
            machine.names[NAME_SIZE] = world.size[a];
            if (world.draw() % 10 < machine.value(law, PARDONS)) {
                world.how[a] = DOWN;
                world.write(a, NOTE_PARDONED);
            } else {
                world.size[a] = Math.min(world.size[a] * 2, MOST_SIZE);
                world.at[a] = world.from[a];
                world.write(a, NOTE_REFUSED);
            }
        }

        private int goDown(World world, int a, Law law) {
            int who = staff.stepDown(world.at[a], world.from[a]);
            nameFor(world, a, who);
            world.size[a] = machine.value(law, WEARS);
            world.at[a] = who;
            if (who != world.from[a]) {
                return 0;
            }
            world.how[a] = DONE;
            world.write(a, NOTE_DONE);
            return 1;
        }

        private void nameFor(World world, int a, int who) {
            machine.name(who, world.from[a], world.to[a]);
            machine.names[NAME_SIZE] = world.size[a];
            machine.names[NAME_DAY] = world.day;
            machine.names[NAME_DAYS] = world.day - world.began[a];
        }

        private int merge(World world) {
            int done = 0;
            for (int a = 0; a < world.count; a++) {
                for (int b = a + 1; b < world.count; b++) {
                    if (world.how[a] == UP && world.how[b] == UP
                            && world.to[a] == world.to[b] && world.at[a] == world.at[b]) {
                        mergeInto(world, a, b);
                        done++;
                    }
                }
            }
            return done;
        }

        private void mergeInto(World world, int stays, int goes) {
            int greater = Math.max(world.size[stays], world.size[goes]);
            int less = Math.min(world.size[stays], world.size[goes]);
            world.size[stays] = Math.min(greater + less / 2, MOST_SIZE);
            world.size[goes] = 0;
            world.how[goes] = DONE;
            world.write(goes, NOTE_MERGED);
        }
    }

    /** A TEXT as it was read: its CLAUSES, and the code of its laws. */
    private static final class Law {
        int clauses = 0;
        final int[] kind = new int[MOST_CLAUSES];
        final int[] one = new int[MOST_CLAUSES];
        final int[] other = new int[MOST_CLAUSES];
        final int[] size = new int[MOST_CLAUSES];
        final int[] start = new int[LAWS];
        final int[] stop = new int[LAWS];
        int codes = 0;
        // Each TOKEN makes one code at most, so there are never more than bytes.
        final int[] code = new int[MOST_BYTES];
        final int[] with = new int[MOST_BYTES];

        void copy(Law from) {
            clauses = from.clauses;
            System.arraycopy(from.kind, 0, kind, 0, MOST_CLAUSES);
            System.arraycopy(from.one, 0, one, 0, MOST_CLAUSES);
            System.arraycopy(from.other, 0, other, 0, MOST_CLAUSES);
            System.arraycopy(from.size, 0, size, 0, MOST_CLAUSES);
            System.arraycopy(from.start, 0, start, 0, LAWS);
            System.arraycopy(from.stop, 0, stop, 0, LAWS);
            codes = from.codes;
            System.arraycopy(from.code, 0, code, 0, MOST_BYTES);
            System.arraycopy(from.with, 0, with, 0, MOST_BYTES);
        }

        void clear() {
            clauses = 0;
            codes = 0;
            Arrays.fill(start, NONE);
            Arrays.fill(stop, NONE);
        }

        boolean rules(int which) {
            return start[which] != NONE;
        }

        /** Puts a code behind the others: its place, to be patched there. */
        int put(int op, int its) {
            if (codes >= MOST_BYTES) {
                return NONE;
            }
            code[codes] = op;
            with[codes] = its;
            codes++;
            return codes - 1;
        }

        /** Lets the skip at that place lead to the code that comes next. */
        void leadHere(int skip) {
            if (skip != NONE) {
                with[skip] = codes;
            }
        }
    }

    /** Works out the laws' values. */
    private static final class Machine {
        final Staff staff;
        final int[] names = new int[NAMES];
        private final int[] stack = new int[MOST_BYTES];
        private int height = 0;

        Machine(Staff staff) {
            this.staff = staff;
        }

        void name(int who, int from, int to) {
            names[NAME_WHO] = who;
            names[NAME_PRIDE] = staff.pride[who];
            names[NAME_RANK] = staff.rank[who];
            names[NAME_FROM] = from;
            names[NAME_TO] = to;
        }

        /** What that law says of the names as they are; law null: none rules. */
        int value(Law law, int which) {
            if (law == null || !law.rules(which)) {
                return bound(unwritten(which), which);
            }
            height = 0;
            int at = law.start[which];
            int stop = law.stop[which];
            // Codes lead only forward, so as many turns as there are codes are enough.
            for (int n = 0; n < MOST_BYTES && at < stop; n++) {
                int op = law.code[at];
                if (op == SKIP) {
                    at = law.with[at];
                } else if (op == SKIP_UNLESS) {
                    at = pop() == 0 ? law.with[at] : at + 1;
                } else {
                    push(found(op, law.with[at]));
                    at++;
                }
            }
            return bound(pop(), which);
        }

        private int unwritten(int which) {
            switch (which) {
                case ADDS: return names[NAME_PRIDE] + 1;
                case PARDONS: return 10 - names[NAME_PRIDE];
                default: return names[NAME_SIZE] / 2;
            }
        }

        private static int bound(int value, int which) {
            int most = which == ADDS ? 999 : which == PARDONS ? 10 : MOST_SIZE;
            return Math.max(0, Math.min(value, most));
        }

        private int found(int op, int with) {
            if (op == PUSH) {
                return with;
            }
            if (op == LOOK_UP) {
                return names[with];
            }
            int right = pop();
            switch (op) {
                case NEGATE: return -right;
                case TURN_ROUND: return 1 - right;
                case RANK_OF: return staff.has(right) ? staff.rank[right] : 0;
                default:
                    int left = pop();
                    return op < LESS ? reckon(op, left, right) : compare(op, left, right) ? 1 : 0;
            }
        }

        private static int reckon(int op, int left, int right) {
            long found = 0;
            switch (op) {
                case PLUS: found = left + right; break;
                case MINUS: found = left - right; break;
                case TIMES: found = (long) left * right; break;
                case OVER: found = right == 0 ? 0 : left / right; break;
                default:
                    // Halving again and again is one division; by 2 to the 20th nothing is left.
                    found = right <= 0 ? left : right >= 20 ? 0 : left / (1 << right);
            }
            return found > MOST_VALUE ? MOST_VALUE : found < -MOST_VALUE ? -MOST_VALUE : (int) found;
        }

        private static boolean compare(int op, int left, int right) {
            switch (op) {
                case LESS: return left < right;
                case AT_MOST: return left <= right;
                case MORE: return left > right;
                case AT_LEAST: return left >= right;
                case ALIKE: return left == right;
                case UNLIKE: return left != right;
                case BOTH_TRUE: return left != 0 && right != 0;
                default: return left != 0 || right != 0;
            }
        }

        private void push(int value) {
            if (height < stack.length) {
                stack[height] = value;
                height++;
            }
        }

        private int pop() {
            if (height == 0) {
                return 0;
            }
            height--;
            return stack[height];
        }
    }

    /** The TOKENS: as a CLAUSE's first one, as a NAME, and as the code of one between two sides. */
    private enum Word {
        ADDS("adds", ApologyUp.ADDS, NONE, NONE),
        PARDONS("pardons", ApologyUp.PARDONS, NONE, NONE),
        WEARS("wears", ApologyUp.WEARS, NONE, NONE),
        OFFICER("officer", TELL_OFFICER, NONE, NONE),
        COUSIN("cousin", TELL_COUSIN, NONE, NONE),
        WRONG("wrong", DO_WRONG, NONE, NONE),
        AWAY("away", SEND_AWAY, NONE, NONE),
        SEND("send", SEND_SIDEWAYS, NONE, NONE),
        DAY("day", PASS_DAYS, NAME_DAY, NONE),
        SIZE("size", NONE, NAME_SIZE, NONE),
        WHO("who", NONE, NAME_WHO, NONE),
        PRIDE("pride", NONE, NAME_PRIDE, NONE),
        RANK("rank", NONE, NAME_RANK, NONE),
        FROM("from", NONE, NAME_FROM, NONE),
        TO("to", NONE, NAME_TO, NONE),
        DAYS("days", NONE, NAME_DAYS, NONE),
        DESK("desk", NONE, NAME_DESK, NONE),
        UNDER("under", NONE, NONE, NONE),
        HALVES("halves", NONE, NONE, NONE),
        BY("by", NONE, NONE, NONE),
        RANKS("ranks", NONE, NONE, NONE),
        IF("if", NONE, NONE, NONE),
        THEN("then", NONE, NONE, NONE),
        ELSE("else", NONE, NONE, NONE),
        END("end", NONE, NONE, NONE),
        OR("or", NONE, NONE, NONE),
        AND("and", NONE, NONE, NONE),
        NOT("not", NONE, NONE, NONE),
        LESS("<", NONE, NONE, ApologyUp.LESS),
        AT_MOST("<=", NONE, NONE, ApologyUp.AT_MOST),
        MORE(">", NONE, NONE, ApologyUp.MORE),
        AT_LEAST(">=", NONE, NONE, ApologyUp.AT_LEAST),
        ALIKE("=", NONE, NONE, ApologyUp.ALIKE),
        UNLIKE("#", NONE, NONE, ApologyUp.UNLIKE),
        PLUS("+", NONE, NONE, ApologyUp.PLUS),
        MINUS("-", NONE, NONE, ApologyUp.MINUS),
        TIMES("*", NONE, NONE, ApologyUp.TIMES),
        OVER("/", NONE, NONE, ApologyUp.OVER),
        OPEN("(", NONE, NONE, NONE),
        CLOSE(")", NONE, NONE, NONE),
        SEMICOLON(";", NONE, NONE, NONE),
        NUMBER("", NONE, NONE, NONE),
        UNKNOWN("", NONE, NONE, NONE),
        STOP("", NONE, NONE, NONE);

        final String spelling;
        final int clauseKind;
        final int nameCode;
        final int opCode;

        Word(String spelling, int clauseKind, int nameCode, int opCode) {
            this.spelling = spelling;
            this.clauseKind = clauseKind;
            this.nameCode = nameCode;
            this.opCode = opCode;
        }
    }

    /**
     * Reads a TEXT: its TOKENS first, its CLAUSES then. Behind a FAULT there is nothing but STOP, so
     * that all that is still being read comes to its end by itself.
     */
    private static final class Reader {
        private static final Word[] WORDS = Word.values();

        boolean hasRead = false;
        int fault = 0;
        int faultPlace = NONE;
        private final Word[] words = new Word[MOST_BYTES + 1];
        private final int[] places = new int[MOST_BYTES + 1];
        private final int[] numbers = new int[MOST_BYTES + 1];
        private int tokens = 0;
        private int token = 0;
        private Word word = Word.STOP;
        private int clause = NONE;
        private Law law = null;

        void read(char[] tape, int length, Law into) {
            hasRead = true;
            fault = 0;
            faultPlace = NONE;
            findTokens(tape, Math.min(length, MOST_BYTES));
            law = into;
            law.clear();
            token = 0;
            word = words[0];
            for (int n = 0; n <= MOST_CLAUSES && word != Word.STOP; n++) {
                readClause(n);
            }
        }

        // ---- TOKENS; the last one is STOP, at the length ----

        private void findTokens(char[] tape, int length) {
            tokens = 0;
            int end = 0;
            for (int at = 0; at < length; at = Math.max(end, at + 1)) {
                if (tape[at] == ' ' || tape[at] == '\n') {
                    continue;
                }
                end = endOfToken(tape, at, length);
                boolean isNumber = isDigit(tape[at]);
                numbers[tokens] = isNumber ? numberFrom(tape, at, end) : NONE;
                words[tokens] = isNumber ? Word.NUMBER : wordFrom(tape, at, end);
                places[tokens] = at;
                tokens++;
            }
            words[tokens] = Word.STOP;
            places[tokens] = length;
        }

        /** Always behind at. */
        private static int endOfToken(char[] tape, int at, int length) {
            char sign = tape[at];
            int end = at + 1;
            if (isDigit(sign)) {
                while (end < length && isDigit(tape[end])) {
                    end++;
                }
            } else if (isLetter(sign)) {
                while (end < length && isLetter(tape[end])) {
                    end++;
                }
            } else if ((sign == '<' || sign == '>') && end < length && tape[end] == '=') {
                end++;
            }
            return end;
        }

        /** What is above all NUMBERS stays just that, however long it is. */
        private static int numberFrom(char[] tape, int at, int end) {
            int number = 0;
            for (int i = at; i < end; i++) {
                number = Math.min(number * 10 + tape[i] - '0', MOST_NUMBER + 1);
            }
            return number;
        }

        private static Word wordFrom(char[] tape, int at, int end) {
            for (int i = 0; i < WORDS.length; i++) {
                if (isSpelled(WORDS[i].spelling, tape, at, end)) {
                    return WORDS[i];
                }
            }
            return Word.UNKNOWN;
        }

        private static boolean isSpelled(String spelling, char[] tape, int at, int end) {
            if (spelling.length() != end - at) {
                return false;
            }
            for (int i = at; i < end; i++) {
                if (spelling.charAt(i - at) != tape[i]) {
                    return false;
                }
            }
            return true;
        }

        private static boolean isDigit(char sign) {
            return sign >= '0' && sign <= '9';
        }

        private static boolean isLetter(char sign) {
            return sign >= 'a' && sign <= 'z' || sign >= 'A' && sign <= 'Z';
        }

        private void step() {
            if (token < tokens) {
                token++;
            }
            word = words[token];
        }

        private void complain(int itsFault) {
            if (fault == 0) {
                fault = itsFault;
                faultPlace = places[token];
            }
            token = tokens;
            word = Word.STOP;
        }

        private void expect(Word wanted) {
            if (word == wanted) {
                step();
            } else {
                complain(CANT_STAND);
            }
        }

        private int readNumber(int low, int high) {
            if (word != Word.NUMBER) {
                complain(CANT_STAND);
                return 0;
            }
            int number = numbers[token];
            if (!within(number, low, high)) {
                complain(NO_SUCH_NUMBER);
                return 0;
            }
            step();
            return number;
        }

        // ---- CLAUSES ----

        private void readClause(int n) {
            clause = word.clauseKind;
            if (clause == NONE) {
                complain(CANT_STAND);
            } else if (clause < LAWS && law.rules(clause)) {
                complain(LAW_TWICE);
            } else if (n >= MOST_CLAUSES) {
                complain(TOO_MANY_CLAUSES);
            } else {
                law.kind[n] = clause;
                law.clauses = n + 1;
                step();
                if (clause < LAWS) {
                    readLaw();
                } else {
                    readAction(n);
                }
                expect(Word.SEMICOLON);
            }
        }

        private void readLaw() {
            law.start[clause] = law.codes;
            readSum(0);
            law.stop[clause] = law.codes;
        }

        private void readAction(int n) {
            switch (clause) {
                case TELL_OFFICER:
                    readPair(n, MOST_PRIDE, Word.UNDER, MOST_OFFICERS - 1);
                    break;
                case SEND_AWAY:
                    readPair(n, MOST_OFFICERS - 1, Word.DAYS, MOST_AWAY);
                    break;
                case SEND_SIDEWAYS:
                    readPair(n, MOST_APOLOGIES - 1, Word.TO, MOST_OFFICERS - 1);
                    break;
                case PASS_DAYS:
                    law.one[n] = readNumber(1, MOST_DAYS);
                    break;
                default:
                    readPair(n, MOST_OFFICERS - 1, Word.TO, MOST_OFFICERS - 1);
                    if (clause == DO_WRONG) {
                        expect(Word.SIZE);
                        law.size[n] = readNumber(1, MOST_SIZE);
                    }
            }
        }

        private void readPair(int n, int mostOne, Word between, int mostOther) {
            law.one[n] = readNumber(0, mostOne);
            expect(between);
            law.other[n] = readNumber(0, mostOther);
        }

        // ---- SUMS; open: how many stand open around it ----

        private void readSum(int open) {
            readProduct(open);
            for (int n = 0; n < MOST_BYTES && (word == Word.PLUS || word == Word.MINUS); n++) {
                int op = word.opCode;
                step();
                readProduct(open);
                law.put(op, 0);
            }
        }

        private void readProduct(int open) {
            readOne(open);
            for (int n = 0; n < MOST_BYTES && (word == Word.TIMES || word == Word.OVER); n++) {
                int op = word.opCode;
                step();
                readOne(open);
                law.put(op, 0);
            }
        }

        private void readOne(int open) {
            if (word == Word.NUMBER) {
                law.put(PUSH, readNumber(0, MOST_NUMBER));
            } else if (word.nameCode != NONE) {
                readName();
            } else if (word == Word.OPEN || word == Word.MINUS || word == Word.HALVES
                    || word == Word.RANKS || word == Word.IF) {
                readOpening(open);
            } else {
                complain(CANT_STAND);
            }
        }

        private void readName() {
            int name = word.nameCode;
            if (name == NAME_DESK && clause != ADDS || name == NAME_DAYS && clause == WEARS) {
                complain(NOT_ITS_NAME);
                return;
            }
            law.put(LOOK_UP, name);
            step();
        }

        private void readOpening(int open) {
            if (open >= MOST_OPEN) {
                complain(TOO_DEEP);
                return;
            }
            Word opening = word;
            step();
            if (opening == Word.OPEN) {
                readSum(open + 1);
                expect(Word.CLOSE);
            } else if (opening == Word.MINUS) {
                readOne(open + 1);
                law.put(NEGATE, 0);
            } else if (opening == Word.RANKS) {
                readOne(open + 1);
                law.put(RANK_OF, 0);
            } else if (opening == Word.HALVES) {
                readOne(open + 1);
                expect(Word.BY);
                readOne(open + 1);
                law.put(HALVE, 0);
            } else {
                readChoice(open + 1);
            }
        }

        private void readChoice(int open) {
            readEither(open);
            expect(Word.THEN);
            int toElse = law.put(SKIP_UNLESS, 0);
            readSum(open);
            expect(Word.ELSE);
            int toEnd = law.put(SKIP, 0);
            law.leadHere(toElse);
            readSum(open);
            expect(Word.END);
            law.leadHere(toEnd);
        }

        private void readEither(int open) {
            readBoth(open);
            for (int n = 0; n < MOST_BYTES && word == Word.OR; n++) {
                step();
                readBoth(open);
                law.put(ONE_TRUE, 0);
            }
        }

        private void readBoth(int open) {
            readAsk(open);
            for (int n = 0; n < MOST_BYTES && word == Word.AND; n++) {
                step();
                readAsk(open);
                law.put(BOTH_TRUE, 0);
            }
        }

        private void readAsk(int open) {
            if (word != Word.NOT) {
                readComparison(open);
            } else if (open >= MOST_OPEN) {
                complain(TOO_DEEP);
            } else {
                step();
                readAsk(open + 1);
                law.put(TURN_ROUND, 0);
            }
        }

        private void readComparison(int open) {
            readSum(open);
            int op = word.opCode;
            if (op < ApologyUp.LESS) {
                complain(CANT_STAND);
                return;
            }
            step();
            readSum(open);
            law.put(op, 0);
        }
    }

    /** Finds the ROUTE of a WRONG. */
    private static final class Pathfinder {
        private static final int FAR = 1000;

        final int[] days = new int[MOST_OFFICERS];
        final int[] best = new int[MOST_OFFICERS];
        int bestSteps = 0;
        int bestSize = 0;
        private final Staff staff;
        private final Machine machine;
        private final int[] path = new int[MOST_OFFICERS];
        private Law law = null;
        private int from = 0;
        private int to = 0;
        private int below = 0;

        Pathfinder(Staff staff, Machine machine) {
            this.staff = staff;
            this.machine = machine;
        }

        void find(int itsFrom, int itsTo, Law itsLaw, int day) {
            from = itsFrom;
            to = itsTo;
            law = itsLaw;
            below = staff.bitsBelow(to) & ~(1 << to);
            bestSteps = 0;
            bestSize = MOST_SIZE + 1;
            machine.names[NAME_DAY] = day;
            machine.names[NAME_DAYS] = 0;
            machine.names[NAME_DESK] = 0;
            measureDays();
            walk(from, LAW_SIZE, 0);
        }

        private boolean isBelow(int officer) {
            return (below >> officer & 1) == 1;
        }

        /** The fewest DAYS from each one below TO up to it. */
        private void measureDays() {
            Arrays.fill(days, FAR);
            days[to] = 0;
            // A way has no officer twice, so after so many rounds none gets shorter.
            for (int round = 0; round < staff.count; round++) {
                for (int one = 0; one < staff.count; one++) {
                    for (int next = 0; next < staff.count; next++) {
                        days[one] = Math.min(days[one], days[next] + stepDays(one, next));
                    }
                }
            }
        }

        /** DAYS of a step; FAR: there is no such step. */
        private int stepDays(int one, int next) {
            if (!isBelow(one)) {
                return FAR;
            }
            if (staff.boss[one] == next) {
                return 1;
            }
            return isBelow(next) && staff.areCousins(one, next) ? 2 : FAR;
        }

        /** Tries the soonest ways, those by lower officers first; a later one must be smaller. */
        private void walk(int at, int size, int steps) {
            if (at == to) {
                if (size < bestSize) {
                    bestSize = size;
                    bestSteps = steps;
                    System.arraycopy(path, 0, best, 0, steps);
                }
                return;
            }
            if (steps >= MOST_OFFICERS) {
                return;
            }
            for (int next = 0; next < staff.count; next++) {
                int its = stepDays(at, next);
                if (its < FAR && days[next] + its == days[at]) {
                    path[steps] = next;
                    walk(next, its == 1 ? grown(next, size) : size, steps + 1);
                }
            }
        }

        private int grown(int who, int size) {
            machine.name(who, from, to);
            machine.names[NAME_SIZE] = size;
            return Math.min(size + machine.value(law, ADDS), MOST_SIZE);
        }
    }

    /** The PILE, and which of it are in the sets of a total. */
    private static final class Pile {
        int count = 0;
        int sets = 0;
        private final int[] sizes = new int[MOST_PILED];
        private final int[] inSets = new int[MOST_PILED];

        void copy(Pile other) {
            count = other.count;
            System.arraycopy(other.sizes, 0, sizes, 0, MOST_PILED);
        }

        int put(int size) {
            if (count < MOST_PILED) {
                sizes[count] = size;
                count++;
            }
            return count;
        }

        /** Counts the sets of that total, and for each one those that it is in. */
        void countSets(int total) {
            sets = 0;
            Arrays.fill(inSets, 0);
            for (int set = 0; set < 1 << count; set++) {
                if (sumOf(set) == total) {
                    sets++;
                    for (int i = 0; i < count; i++) {
                        inSets[i] += set >> i & 1;
                    }
                }
            }
        }

        private int sumOf(int set) {
            int sum = 0;
            for (int i = 0; i < count; i++) {
                sum += (set >> i & 1) * sizes[i];
            }
            return sum;
        }

        /** Those that are in just so many sets. */
        int bitsIn(int soMany) {
            int bits = 0;
            for (int i = 0; i < count; i++) {
                if (inSets[i] == soMany) {
                    bits |= 1 << i;
                }
            }
            return bits;
        }

        int nearestToHalf() {
            int found = NONE;
            int least = sets;
            for (int i = 0; i < count; i++) {
                int off = Math.abs(2 * inSets[i] - sets);
                if (inSets[i] > 0 && inSets[i] < sets && off < least) {
                    least = off;
                    found = i;
                }
            }
            return found;
        }
    }

    /** What can be asked of the OFFICERS as a tree. */
    private static final class Tree {
        private static final int SET_SPAN = 1 << MOST_OFFICERS;
        private static final int FAR = 1 << 20;

        private final Staff staff;
        private final int[] sizes = new int[MOST_OFFICERS];
        private final int[] with = new int[MOST_OFFICERS];
        private final int[] without = new int[MOST_OFFICERS];
        private final int[] lift = new int[MOST_OFFICERS];

        Tree(Staff staff) {
            this.staff = staff;
        }

        /** How many are at or below each one. */
        private void measure() {
            Arrays.fill(sizes, 1);
            for (int i = staff.count - 1; i > 0; i--) {
                sizes[staff.boss[i]] += sizes[i];
            }
        }

        /** All orders, of which of each one and those below it just those that it heads. */
        long promotions() {
            measure();
            long all = 1;
            long each = 1;
            for (int i = 0; i < staff.count; i++) {
                all *= i + 1;
                each *= sizes[i];
            }
            return each == 0 ? 0 : all / each;
        }

        int promotedAt(int i) {
            int promoted = 0;
            int latest = NONE;
            for (int n = 0; n <= i && n < staff.count; n++) {
                latest = proudest(promoted);
                if (latest == NONE) {
                    return NONE;
                }
                promoted |= 1 << latest;
            }
            return latest;
        }

        private int proudest(int promoted) {
            int found = NONE;
            for (int one = 0; one < staff.count; one++) {
                boolean ready = one == 0 || (promoted >> staff.boss[one] & 1) == 1;
                boolean still = (promoted >> one & 1) == 0;
                if (ready && still && (found == NONE || staff.pride[one] > staff.pride[found])) {
                    found = one;
                }
            }
            return found;
        }

        /**
         * A set is reckoned as its weight times SET_SPAN less its bits: the greatest one is of the
         * most weight and, of like ones, the lowest; and disjoint sets just add up.
         */
        int heaviestApart() {
            if (staff.count == 0) {
                return 0;
            }
            for (int i = 0; i < staff.count; i++) {
                with[i] = staff.weight[i] * SET_SPAN - (1 << i);
                without[i] = 0;
            }
            for (int i = staff.count - 1; i > 0; i--) {
                int boss = staff.boss[i];
                with[boss] += without[i];
                without[boss] += Math.max(with[i], without[i]);
            }
            return -Math.max(with[0], without[0]) & (SET_SPAN - 1);
        }

        int weightOf(int set) {
            int sum = 0;
            for (int i = 0; i < staff.count; i++) {
                sum += (set >> i & 1) * staff.weight[i];
            }
            return sum;
        }

        /**
         * A set is reckoned as SET_SPAN for each in it and its bits: the least one has the fewest
         * and, of like ones, is the lowest; and disjoint sets just add up.
         * with: itself in the set; without: not, those below it all served; lift: what it costs
         * more to have one right below it in the set, by which it is served itself.
         */
        int fewestDeputies() {
            if (staff.count == 0) {
                return 0;
            }
            for (int i = 0; i < staff.count; i++) {
                with[i] = SET_SPAN + (1 << i);
                without[i] = 0;
                lift[i] = FAR;
            }
            for (int i = staff.count - 1; i > 0; i--) {
                int boss = staff.boss[i];
                int served = Math.min(with[i], without[i] + lift[i]);
                lift[boss] = Math.min(lift[boss], with[i] - served);
                with[boss] += Math.min(with[i], without[i]);
                without[boss] += served;
            }
            return Math.min(with[0], without[0] + lift[0]) & (SET_SPAN - 1);
        }

        int nearestToAll() {
            int found = NONE;
            int least = FAR;
            for (int one = 0; one < staff.count; one++) {
                int sum = 0;
                for (int other = 0; other < staff.count; other++) {
                    sum += staff.distance(one, other);
                }
                if (sum < least) {
                    least = sum;
                    found = one;
                }
            }
            return found;
        }

        int diameter() {
            int most = 0;
            for (int one = 0; one < staff.count; one++) {
                most = Math.max(most, farthestFrom(one));
            }
            return most;
        }

        int farEnd() {
            int found = NONE;
            int most = NONE;
            for (int one = 0; one < staff.count; one++) {
                int far = farthestFrom(one);
                if (far > most) {
                    most = far;
                    found = one;
                }
            }
            return found;
        }

        private int farthestFrom(int one) {
            int most = 0;
            for (int other = 0; other < staff.count; other++) {
                most = Math.max(most, staff.distance(one, other));
            }
            return most;
        }

        int greatestPart(int gone) {
            measure();
            int most = staff.count - sizes[gone];
            for (int i = gone + 1; i < staff.count; i++) {
                if (staff.boss[i] == gone) {
                    most = Math.max(most, sizes[i]);
                }
            }
            return most;
        }
    }
}
