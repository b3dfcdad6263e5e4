/** Boundary cases of promises 1 to 3 and 9 to 15: officers, cousins, and what is done and taken back. */
public final class BoundaryStepsTest {
    private static final int NONE = ApologyUp.NONE;
    private static final int MIN = Integer.MIN_VALUE;
    private static final int MAX = Integer.MAX_VALUE;

    public static void main(String[] args) throws IllegalAccessException {
        Cases.run(BoundaryStepsTest.class);
    }

    private static void due(String call, long got, long want) {
        Checks.due(call, got, want);
    }

    private static void yes(String call, boolean got) {
        Checks.due(call, got, true);
    }

    private static void no(String call, boolean got) {
        Checks.due(call, got, false);
    }

    // ---- 1: a new object ----

    static void p01_nobodyIsThere() {
        ApologyUp up = new ApologyUp();
        due("officers", up.about(0), 0);
        due("of the first one", up.of(0, 1), -2);
        due("apologies", up.is(2), 0);
        due("of the first apology", up.ofApology(0, 0), -2);
        due("the book", up.book(NONE, 0), 0);
        due("texts", up.about(1), 0);
        due("the text", up.about(2), NONE);
        due("steps", up.about(3), 0);
        due("pile", up.about(4), 0);
        due("added", up.about(5), 0);
        due("tape", up.about(6), 0);
    }

    static void p01_theDayIsAtFirst0AndX181() {
        due("day", new ApologyUp().is(0), 0);
        due("x", new ApologyUp().is(1), 181);
    }

    static void p01_theImageIsTheNewObject() {
        ApologyUp up = Makings.ruled(Makings.chain(3, 4), "adds 1;");
        up.cousin(1, 2);
        up.wrong(2, 0, 3);
        up.day(3);
        up.pile(3);
        up.added(1, 2);
        up.owes(0, 0, 9);
        up.weigh(0, 9);
        due("back", up.back(), 0);
        due("officers", up.about(0), 0);
        due("texts", up.about(1), 0);
        due("the text", up.about(2), NONE);
        due("steps", up.about(3), 0);
        due("pile", up.about(4), 0);
        due("added", up.about(5), 0);
        due("x", up.is(1), 181);
        due("apologies", up.is(2), 0);
        due("the book", up.book(NONE, 0), 0);
        due("turns", up.play(0, true), 0);
        due("an officer of the new one", up.officer(NONE, 2), 0);
        due("its weight", up.apart(true), 1);
        due("its cousins", up.of(0, 6), 0);
    }

    // ---- 2: officer ----

    static void p02_theFirstOneHasNoBoss() {
        ApologyUp up = new ApologyUp();
        due("below 0", up.officer(0, 1), NONE);
        due("below -2", up.officer(-2, 1), NONE);
        due("below the least", up.officer(MIN, 1), NONE);
        due("nobody was told", up.about(0), 0);
        due("without a boss", up.officer(NONE, 1), 0);
    }

    static void p02_eachOtherOneHasABoss() {
        ApologyUp up = Makings.chain(1, 0);
        due("without a boss", up.officer(NONE, 1), NONE);
        due("nobody was told", up.about(0), 1);
        due("with a boss", up.officer(0, 1), 1);
    }

    static void p02_theBossIsToldAhead() {
        ApologyUp up = Makings.chain(2, 0);
        due("below itself", up.officer(2, 0), NONE);
        due("below a later one", up.officer(3, 0), NONE);
        due("below the most", up.officer(MAX, 0), NONE);
        due("below -2", up.officer(-2, 0), NONE);
        due("below the least", up.officer(MIN, 0), NONE);
        due("below the latest", up.officer(1, 0), 2);
        due("below the first", up.officer(0, 0), 3);
    }

    static void p02_prideIsAtLeast0() {
        ApologyUp up = new ApologyUp();
        due("-1", up.officer(NONE, -1), NONE);
        due("the least", up.officer(NONE, MIN), NONE);
        due("0", up.officer(NONE, 0), 0);
        due("another one of -1", up.officer(0, -1), NONE);
        due("another one of 0", up.officer(0, 0), 1);
        due("its pride", up.of(1, 1), 0);
    }

    static void p02_prideIsAtMost9() {
        ApologyUp up = new ApologyUp();
        due("10", up.officer(NONE, 10), NONE);
        due("the most", up.officer(NONE, MAX), NONE);
        due("9", up.officer(NONE, 9), 0);
        due("another one of 10", up.officer(0, 10), NONE);
        due("another one of 9", up.officer(0, 9), 1);
        due("its pride", up.of(1, 1), 9);
    }

    static void p02_thereAreTenAtMost() {
        ApologyUp up = Makings.star(8);
        due("the tenth", up.officer(8, 3), 9);
        due("the eleventh", up.officer(9, 3), NONE);
        due("the eleventh below the first", up.officer(0, 0), NONE);
        due("the eleventh without a boss", up.officer(NONE, 0), NONE);
        due("how many", up.about(0), 10);
        due("the tenth stays", up.of(9, 0), 8);
    }

    static void p02_itIsNoStep() {
        due("steps", Makings.chain(10, 0).about(3), 0);
    }

    // ---- 3: cousin ----

    static void p03_theyAreUnlike() {
        ApologyUp up = Makings.chain(2, 0);
        no("0 and 0", up.cousin(0, 0));
        no("1 and 1", up.cousin(1, 1));
        due("cousins", up.of(1, 6), 0);
    }

    static void p03_falseIfTheyAreAlready() {
        ApologyUp up = Makings.chain(3, 0);
        yes("1 and 2", up.cousin(1, 2));
        no("1 and 2 again", up.cousin(1, 2));
        no("2 and 1", up.cousin(2, 1));
        due("of 1", up.of(1, 6), 4);
        due("of 2", up.of(2, 6), 2);
        due("of 0", up.of(0, 6), 0);
    }

    static void p03_falseForThoseThatArentTold() {
        ApologyUp up = Makings.chain(2, 0);
        no("0 and 2", up.cousin(0, 2));
        no("2 and 0", up.cousin(2, 0));
        no("0 and NONE", up.cousin(0, NONE));
        no("NONE and 0", up.cousin(NONE, 0));
        no("0 and the most", up.cousin(0, MAX));
        no("the least and 0", up.cousin(MIN, 0));
        // A shift by 33 is one by 1.
        no("0 and 33", up.cousin(0, 33));
        due("cousins", up.of(0, 6), 0);
    }

    static void p03_theLastOfTenAndTheFirst() {
        ApologyUp up = Makings.chain(10, 0);
        yes("0 and 9", up.cousin(0, 9));
        due("of 0", up.of(0, 6), 512);
        due("of 9", up.of(9, 6), 1);
    }

    // ---- 9: wrong ----

    static void p09_toIsAboveFrom() {
        ApologyUp up = Makings.family();
        due("to itself", up.wrong(3, 3, 1), NONE);
        due("of the first one to itself", up.wrong(0, 0, 1), NONE);
        due("to one below", up.wrong(1, 3, 1), NONE);
        due("to one beside", up.wrong(4, 3, 1), NONE);
        due("to another one's boss", up.wrong(3, 2, 1), NONE);
        due("to the boss", up.wrong(3, 1, 1), 0);
        due("to the boss's boss", up.wrong(3, 0, 1), 1);
    }

    static void p09_bothAreTold() {
        ApologyUp up = Makings.chain(2, 0);
        due("from 2", up.wrong(2, 0, 1), NONE);
        due("from NONE", up.wrong(NONE, 0, 1), NONE);
        due("to NONE", up.wrong(0, NONE, 1), NONE);
        due("to 2", up.wrong(1, 2, 1), NONE);
        due("from the most", up.wrong(MAX, 0, 1), NONE);
        due("to the least", up.wrong(1, MIN, 1), NONE);
        due("with nobody there", new ApologyUp().wrong(0, NONE, 1), NONE);
        due("apologies", up.is(2), 0);
    }

    static void p09_sizeIsAtLeast1() {
        ApologyUp up = Makings.chain(2, 0);
        due("0", up.wrong(1, 0, 0), NONE);
        due("-1", up.wrong(1, 0, -1), NONE);
        due("the least", up.wrong(1, 0, MIN), NONE);
        due("1", up.wrong(1, 0, 1), 0);
        due("its size", up.ofApology(0, 3), 1);
    }

    static void p09_sizeIsAtMost9999() {
        ApologyUp up = Makings.chain(2, 0);
        due("10000", up.wrong(1, 0, 10000), NONE);
        due("the most", up.wrong(1, 0, MAX), NONE);
        due("9999", up.wrong(1, 0, 9999), 0);
        due("its size", up.ofApology(0, 3), 9999);
    }

    static void p09_thereAreTenAtMost() {
        ApologyUp up = Makings.chain(2, 0);
        for (int i = 0; i < 10; i++) {
            due("the next", up.wrong(1, 0, 1), i);
        }
        due("the eleventh", up.wrong(1, 0, 1), NONE);
        due("how many", up.is(2), 10);
        due("steps", up.about(3), 10);
    }

    static void p09_thoseThatAreDoneWithCountToo() {
        ApologyUp up = Makings.chain(2, 0);
        for (int i = 0; i < 10; i++) {
            up.wrong(1, 0, 1);
        }
        up.away(1, 9);
        due("merged", up.day(1), 9);
        due("the eleventh", up.wrong(1, 0, 1), NONE);
    }

    static void p09_aRefusedOneIsNoStep() {
        ApologyUp up = Makings.chain(2, 0);
        up.wrong(0, 1, 1);
        up.wrong(1, 0, 0);
        due("steps", up.about(3), 0);
        due("apologies", up.is(2), 0);
    }

    static void p09_itBeginsOnTheDayAtItsFromAndDoesntWait() {
        ApologyUp up = Makings.on(Makings.chain(3, 0), 7);
        up.wrong(2, 0, 5);
        due("at", up.ofApology(0, 2), 2);
        due("how", up.ofApology(0, 4), 0);
        due("began", up.ofApology(0, 5), 7);
        due("waits", up.ofApology(0, 6), 0);
    }

    static void p09_onTheLastDayOneCanStillBeWronged() {
        ApologyUp up = Makings.on(Makings.chain(2, 0), 9999);
        due("wrong", up.wrong(1, 0, 1), 0);
        due("began", up.ofApology(0, 5), 9999);
    }

    // ---- 10: away ----

    static void p10_daysAreAtLeast0() {
        ApologyUp up = Makings.chain(1, 0);
        no("-1", up.away(0, -1));
        no("the least", up.away(0, MIN));
        due("steps", up.about(3), 0);
        yes("0", up.away(0, 0));
        due("steps", up.about(3), 1);
    }

    static void p10_daysAreAtMost99() {
        ApologyUp up = Makings.chain(1, 0);
        no("100", up.away(0, 100));
        no("the most", up.away(0, MAX));
        due("not away", up.of(0, 3), 0);
        yes("99", up.away(0, 99));
        due("till", up.of(0, 3), 99);
    }

    static void p10_falseForThoseThatArentTold() {
        ApologyUp up = Makings.chain(1, 0);
        no("NONE", up.away(NONE, 1));
        no("1", up.away(1, 1));
        no("the most", up.away(MAX, 1));
        no("the least", up.away(MIN, 1));
        no("with nobody there", new ApologyUp().away(0, 1));
        due("steps", up.about(3), 0);
    }

    static void p10_for0DaysItIsNotAway() {
        ApologyUp up = Makings.on(Makings.chain(2, 0), 3);
        up.wrong(1, 0, 5);
        up.away(1, 9);
        due("till", up.of(1, 3), 12);
        yes("0", up.away(1, 0));
        due("not", up.of(1, 3), 0);
        up.day(1);
        due("it goes up", up.ofApology(0, 2), 0);
    }

    static void p10_onTheLastDayItIsBeyond9999() {
        ApologyUp up = Makings.on(Makings.chain(1, 0), 9999);
        yes("99", up.away(0, 99));
        due("till", up.of(0, 3), 10098);
    }

    // ---- 11: sideways ----

    /** 3 is a cousin of 5, 4, 1 and 0; an apology from 3 to 0, and another one to 1. */
    private static ApologyUp cousins() {
        ApologyUp up = Makings.family();
        up.cousin(3, 5);
        up.cousin(3, 4);
        up.cousin(3, 1);
        up.cousin(0, 3);
        up.wrong(3, 0, 4);
        up.wrong(3, 1, 4);
        return up;
    }

    static void p11_toACousin() {
        ApologyUp up = cousins();
        no("to another one", up.sideways(0, 2));
        no("to itself", up.sideways(0, 3));
        yes("to a cousin", up.sideways(0, 5));
        due("at", up.ofApology(0, 2), 5);
        due("size", up.ofApology(0, 3), 4);
        due("how", up.ofApology(0, 4), 0);
        due("from", up.ofApology(0, 0), 3);
    }

    static void p11_aCousinOfTheOneItIsAtNotOfItsFrom() {
        ApologyUp up = Makings.family();
        up.cousin(3, 5);
        up.cousin(1, 2);
        up.wrong(3, 0, 4);
        up.day(1);
        due("at", up.ofApology(0, 2), 1);
        no("to its from's", up.sideways(0, 5));
        yes("to its own", up.sideways(0, 2));
    }

    static void p11_theCousinIsBelowTo() {
        ApologyUp up = cousins();
        no("to is none below itself", up.sideways(0, 0));
        no("to is none below itself", up.sideways(1, 1));
        no("above to", up.sideways(1, 0));
        no("beside to", up.sideways(1, 5));
        yes("below to", up.sideways(1, 4));
        yes("the boss, if below to", up.sideways(0, 1));
    }

    static void p11_itDoesntWait() {
        ApologyUp up = Makings.on(cousins(), 0);
        yes("to a cousin", up.sideways(0, 5));
        due("waits till", up.ofApology(0, 6), 2);
        no("on that day", up.sideways(0, 3));
        up.day(1);
        no("on the next day", up.sideways(0, 3));
        up.day(1);
        due("it waited", up.ofApology(0, 2), 5);
        yes("the day till which it waits", up.sideways(0, 3));
        due("waits till", up.ofApology(0, 6), 4);
    }

    static void p11_itGoesUp() {
        ApologyUp up = Makings.chain(4, 0);
        up.cousin(1, 2);
        up.cousin(2, 3);
        up.cousin(1, 3);
        up.wrong(3, 0, 9);
        up.day(3);
        due("pardoned", up.ofApology(0, 4), 1);
        up.day(1);
        due("at", up.ofApology(0, 2), 1);
        no("one that comes down", up.sideways(0, 2));
        up.day(2);
        due("done with", up.ofApology(0, 4), 2);
        no("one that is done with", up.sideways(0, 2));
        due("steps", up.about(3), 7);
    }

    static void p11_falseForThoseThatArentThere() {
        ApologyUp up = cousins();
        no("apology 2", up.sideways(2, 5));
        no("apology NONE", up.sideways(NONE, 5));
        no("apology the most", up.sideways(MAX, 5));
        no("apology the least", up.sideways(MIN, 5));
        no("officer 6", up.sideways(0, 6));
        no("officer NONE", up.sideways(0, NONE));
        no("officer 37", up.sideways(0, 37));
        no("officer the most", up.sideways(0, MAX));
        no("officer the least", up.sideways(0, MIN));
        due("steps", up.about(3), 2);
        due("at", up.ofApology(0, 2), 3);
        due("waits", up.ofApology(0, 6), 0);
    }

    static void p11_awayDoesntMatter() {
        ApologyUp up = cousins();
        up.away(3, 9);
        up.away(5, 9);
        yes("from and to ones that are away", up.sideways(0, 5));
    }

    // ---- 12: day ----

    static void p12_daysAreAtLeast1() {
        ApologyUp up = new ApologyUp();
        due("0", up.day(0), NONE);
        due("-1", up.day(-1), NONE);
        due("the least", up.day(MIN), NONE);
        due("none passed", up.is(0), 0);
        due("steps", up.about(3), 0);
        due("1", up.day(1), 0);
        due("one passed", up.is(0), 1);
    }

    static void p12_daysAreAtMost60() {
        ApologyUp up = new ApologyUp();
        due("61", up.day(61), NONE);
        due("the most", up.day(MAX), NONE);
        due("none passed", up.is(0), 0);
        due("60", up.day(60), 0);
        due("they passed", up.is(0), 60);
    }

    static void p12_beyond9999NothingIsDone() {
        ApologyUp up = Makings.on(Makings.chain(2, 0), 9940);
        up.wrong(1, 0, 5);
        due("60", up.day(60), NONE);
        due("none passed", up.is(0), 9940);
        due("it didn't go up", up.ofApology(0, 2), 1);
        due("steps", up.undo(), 29);
        due("the step was the wrong", up.is(2), 0);
        due("59", up.day(59), 0);
        due("the last one", up.is(0), 9999);
    }

    static void p12_at9999NoneCanPass() {
        ApologyUp up = Makings.on(Makings.chain(2, 0), 9999);
        due("the last one", up.is(0), 9999);
        due("1", up.day(1), NONE);
        due("60", up.day(60), NONE);
        due("the last one", up.is(0), 9999);
    }

    static void p12_oneThatWaitsGoesOnTheDayTillWhich() {
        ApologyUp up = Makings.family();
        up.cousin(3, 5);
        up.wrong(3, 0, 4);
        up.sideways(0, 5);
        up.day(2);
        due("it waits", up.ofApology(0, 2), 5);
        up.day(1);
        due("it goes up", up.ofApology(0, 2), 2);
        due("waits, as it was last", up.ofApology(0, 6), 2);
    }

    static void p12_oneAtAnAwayOneGoesOnTheDayTillWhich() {
        ApologyUp up = Makings.chain(3, 0);
        up.wrong(2, 0, 4);
        up.away(2, 1);
        up.day(1);
        due("it stays", up.ofApology(0, 2), 2);
        due("size", up.ofApology(0, 3), 4);
        up.day(1);
        due("it goes up", up.ofApology(0, 2), 1);
    }

    static void p12_whetherTheOneItGoesToIsAwayDoesntMatter() {
        ApologyUp up = Makings.chain(2, 0);
        up.wrong(1, 0, 4);
        up.away(0, 2);
        up.day(1);
        due("it is pardoned", up.ofApology(0, 4), 1);
        up.day(1);
        due("but stays with the one that is away", up.ofApology(0, 2), 0);
        due("it is done with then", up.day(1), 1);
    }

    static void p12_byNumberAsAllIsThen() {
        // 0 comes to officer 1 first, so that 1 finds it on the desk; 2 finds both.
        ApologyUp up = Makings.ruled(Makings.chain(4, 0), "adds desk*100;");
        up.wrong(2, 0, 1);
        up.wrong(2, 1, 1);
        up.wrong(3, 0, 1);
        up.day(1);
        due("to a desk of none", up.ofApology(0, 3), 1);
        due("to a desk of one, who is there as well", up.ofApology(1, 2), 1);
        due("another desk, that is empty by then", up.ofApology(2, 3), 1);
        ApologyUp two = Makings.ruled(Makings.chain(3, 0), "adds desk*100;pardons 10;");
        two.wrong(1, 0, 1);
        two.wrong(2, 0, 1);
        two.wrong(2, 1, 1);
        two.day(1);
        due("the first one went ahead", two.ofApology(1, 3), 1);
        due("the last one finds the one ahead of it", two.ofApology(2, 3), 101);
        ApologyUp other = Makings.ruled(Makings.chain(3, 0), "adds desk*100;pardons 10;");
        other.wrong(2, 1, 1);
        other.wrong(1, 0, 1);
        other.day(1);
        due("the later one is still on the desk", other.ofApology(0, 3), 101);
    }

    static void p12_sizeIsAtMost9999WithWhatIsAdded() {
        ApologyUp up = Makings.ruled(Makings.chain(4, 0), "adds 5;");
        up.wrong(3, 0, 9993);
        up.day(1);
        due("9998", up.ofApology(0, 3), 9998);
        up.day(1);
        due("9999", up.ofApology(0, 3), 9999);
        ApologyUp just = Makings.ruled(Makings.chain(4, 0), "adds 5;");
        just.wrong(3, 0, 9994);
        just.day(1);
        due("just 9999", just.ofApology(0, 3), 9999);
    }

    static void p12_addsIsAtLeast0AndAtMost999() {
        ApologyUp less = Makings.ruled(Makings.chain(3, 0), "adds 0-1;");
        less.wrong(2, 0, 7);
        less.day(1);
        due("0 at least", less.ofApology(0, 3), 7);
        ApologyUp most = Makings.ruled(Makings.chain(3, 0), "adds 1000;");
        most.wrong(2, 0, 7);
        most.day(1);
        due("999 at most", most.ofApology(0, 3), 1006);
    }

    static void p12_aDrawMustBeBelowPardons() {
        // The draws are 1, 0, 9.
        ApologyUp like = Makings.ruled(Makings.star(1), "pardons 1;");
        like.wrong(1, 0, 1);
        like.day(1);
        due("1 isn't below 1", like.ofApology(0, 4), 0);
        ApologyUp more = Makings.ruled(Makings.star(1), "pardons 2;");
        more.wrong(1, 0, 1);
        more.day(1);
        due("1 is below 2", more.ofApology(0, 4), 1);
    }

    /** How the third of three is behind a day, that draws 9. */
    private static int thirdBy(String text) {
        ApologyUp up = Makings.ruled(Makings.star(3), text);
        for (int i = 1; i <= 3; i++) {
            up.wrong(i, 0, 1);
        }
        up.day(1);
        return up.ofApology(2, 4);
    }

    static void p12_pardonsOf10IsAlways() {
        due("9 is below 10", thirdBy("pardons 10;"), 1);
        due("more than 10 is 10", thirdBy("pardons 9999;"), 1);
        due("9 isn't below 9", thirdBy("pardons 9;"), 0);
    }

    static void p12_pardonsOf0IsNever() {
        ApologyUp up = Makings.ruled(Makings.star(2), "pardons 0;");
        up.wrong(1, 0, 1);
        up.wrong(2, 0, 1);
        up.day(1);
        due("0 isn't below 0", up.ofApology(1, 4), 0);
        ApologyUp less = Makings.ruled(Makings.star(2), "pardons 0-5;");
        less.wrong(1, 0, 1);
        less.wrong(2, 0, 1);
        less.day(1);
        due("0 isn't below less", less.ofApology(1, 4), 0);
    }

    static void p12_withoutPardonsItIs10LessPride() {
        ApologyUp nine = Makings.chain(2, 9);
        nine.wrong(1, 0, 1);
        nine.day(1);
        due("1 isn't below 10 less 9", nine.ofApology(0, 4), 0);
        ApologyUp eight = Makings.ruled(Makings.chain(2, 8), "adds 0;wears 0;");
        eight.wrong(1, 0, 1);
        eight.day(1);
        due("1 is below 10 less 8", eight.ofApology(0, 4), 1);
        ApologyUp none = Makings.star(3);
        for (int i = 1; i <= 3; i++) {
            none.wrong(i, 0, 1);
        }
        none.day(1);
        due("9 is below 10 less 0", none.ofApology(2, 4), 1);
    }

    static void p12_thePrideIsThatOfTheOneItComesTo() {
        ApologyUp up = new ApologyUp();
        up.officer(NONE, 9);
        up.officer(0, 0);
        up.wrong(1, 0, 5);
        up.day(1);
        due("pride 9 refuses; 5 and 10, twice", up.ofApology(0, 3), 30);
    }

    static void p12_aDrawMakesXAnew() {
        ApologyUp up = Makings.star(3);
        for (int i = 1; i <= 3; i++) {
            up.wrong(i, 0, 1);
        }
        up.day(1);
        due("three draws: 181, 15430, 22069, 7500", up.is(1), 7500);
        ApologyUp none = Makings.chain(3, 0);
        none.wrong(2, 0, 1);
        none.day(1);
        due("not yet at to: no draw", none.is(1), 181);
    }

    static void p12_onePardonedComesDownFromTheNextDayOn() {
        ApologyUp up = Makings.chain(3, 0);
        up.wrong(2, 0, 8);
        due("none is done with", up.day(2), 0);
        due("it comes down", up.ofApology(0, 4), 1);
        due("but is there yet", up.ofApology(0, 2), 0);
        due("and not worn yet", up.ofApology(0, 3), 10);
        due("the book", up.book(0, 2), 0);
        due("its day", up.book(0, 0), 1);
        due("its size", up.book(0, 3), 10);
        due("on its way none is done with", up.day(1), 0);
        due("one step", up.ofApology(0, 2), 1);
        due("worn", up.ofApology(0, 3), 5);
    }

    static void p12_oneRefusedIsDouble9999AtMost() {
        ApologyUp up = Makings.ruled(Makings.star(3), "adds 0;pardons 0;");
        up.wrong(1, 0, 4999);
        up.wrong(2, 0, 5000);
        up.wrong(3, 0, 9999);
        up.day(1);
        due("4999", up.ofApology(0, 3), 9998);
        due("5000", up.ofApology(1, 3), 9999);
        due("9999", up.ofApology(2, 3), 9999);
        due("at its from again", up.ofApology(1, 2), 2);
        due("still going up", up.ofApology(1, 4), 0);
        due("written down", up.book(1, 2), 1);
        due("its size then", up.book(0, 3), 9998);
    }

    static void p12_oneRefusedGoesToItsFromFromFarToo() {
        ApologyUp up = Makings.ruled(Makings.chain(4, 0), "pardons 0;");
        up.wrong(3, 0, 1);
        up.day(3);
        due("at its from", up.ofApology(0, 2), 3);
        due("1 and 3, twice", up.ofApology(0, 3), 8);
    }

    static void p12_wearsIsAtLeast0AndAtMost9999() {
        ApologyUp less = Makings.ruled(Makings.chain(3, 0), "wears 0-1;");
        less.wrong(2, 0, 7);
        less.day(3);
        due("0 at least", less.ofApology(0, 3), 0);
        ApologyUp most = Makings.ruled(Makings.chain(3, 0), "wears 9999+1;");
        most.wrong(2, 0, 7);
        most.day(3);
        due("9999 at most", most.ofApology(0, 3), 9999);
    }

    static void p12_withoutWearsItIsHalfCut() {
        ApologyUp up = Makings.ruled(Makings.chain(4, 0), "adds 0;");
        up.wrong(3, 0, 7);
        up.day(4);
        due("half of 7", up.ofApology(0, 3), 3);
        up.day(1);
        due("half of 3", up.ofApology(0, 3), 1);
        due("done with", up.day(1), 1);
        due("half of 1", up.ofApology(0, 3), 0);
        due("done with at its from", up.ofApology(0, 2), 3);
        due("how", up.ofApology(0, 4), 2);
        due("the book's size", up.book(1, 3), 0);
        due("the book's what", up.book(1, 2), 2);
    }

    static void p12_fromTheOneRightBelowToItIsDoneWithInOneStep() {
        ApologyUp up = Makings.chain(2, 0);
        up.wrong(1, 0, 7);
        due("pardoned", up.day(1), 0);
        due("done with", up.day(1), 1);
        due("nothing more", up.day(60), 0);
    }

    static void p12_mergedHalfOfTheLessCut() {
        ApologyUp up = Makings.ruled(Makings.chain(3, 0), "adds 0;");
        up.wrong(2, 0, 8);
        up.wrong(2, 0, 5);
        due("merged counts", up.day(1), 1);
        due("8 and half of 5", up.ofApology(0, 3), 10);
        due("the later one is done with", up.ofApology(1, 4), 2);
        due("its size", up.ofApology(1, 3), 0);
        due("the lower number isn't", up.ofApology(0, 4), 0);
        due("written down", up.book(0, 2), 3);
        due("of the later one", up.book(0, 1), 1);
        due("its size then", up.book(0, 3), 0);
    }

    static void p12_mergedTheLowerNumberStaysEvenIfLess() {
        ApologyUp up = Makings.ruled(Makings.chain(3, 0), "adds 0;");
        up.wrong(2, 0, 5);
        up.wrong(2, 0, 8);
        up.day(1);
        due("8 and half of 5", up.ofApology(0, 3), 10);
        due("the later one", up.ofApology(1, 4), 2);
    }

    static void p12_mergedSizeIs9999AtMost() {
        ApologyUp up = Makings.ruled(Makings.chain(3, 0), "adds 0;");
        up.wrong(2, 0, 9998);
        up.wrong(2, 0, 5);
        up.day(1);
        due("9998 and 2", up.ofApology(0, 3), 9999);
        ApologyUp just = Makings.ruled(Makings.chain(3, 0), "adds 0;");
        just.wrong(2, 0, 9997);
        just.wrong(2, 0, 4);
        just.day(1);
        due("9997 and 2", just.ofApology(0, 3), 9999);
        ApologyUp less = Makings.ruled(Makings.chain(3, 0), "adds 0;");
        less.wrong(2, 0, 9997);
        less.wrong(2, 0, 3);
        less.day(1);
        due("9997 and 1", less.ofApology(0, 3), 9998);
    }

    static void p12_mergedByPairsTheLowestFirst() {
        ApologyUp up = Makings.ruled(Makings.chain(3, 0), "adds 0;");
        up.wrong(2, 0, 8);
        up.wrong(2, 0, 4);
        up.wrong(2, 0, 2);
        due("two are merged", up.day(1), 2);
        due("8 and 2 and 1", up.ofApology(0, 3), 11);
        due("first 1", up.book(0, 1), 1);
        due("then 2", up.book(1, 1), 2);
        ApologyUp two = Makings.ruled(Makings.family(), "adds 0;");
        two.wrong(3, 0, 8);
        two.wrong(5, 0, 8);
        two.wrong(5, 0, 4);
        two.wrong(3, 0, 2);
        two.day(1);
        due("the pair of 0", two.book(0, 1), 3);
        due("then the pair of 1", two.book(1, 1), 2);
        due("8 and 1", two.ofApology(0, 3), 9);
        due("8 and 2", two.ofApology(1, 3), 10);
    }

    static void p12_mergedJustOfTheSameTo() {
        ApologyUp up = Makings.chain(4, 0);
        up.wrong(3, 0, 8);
        up.wrong(3, 1, 8);
        due("none", up.day(1), 0);
        due("how", up.ofApology(1, 4), 0);
    }

    static void p12_mergedJustAtTheSameOne() {
        ApologyUp up = Makings.chain(4, 0);
        up.wrong(3, 0, 8);
        up.wrong(2, 0, 8);
        due("none", up.day(1), 0);
    }

    static void p12_mergedWhateverTheirFrom() {
        ApologyUp up = Makings.family();
        up.wrong(3, 0, 8);
        up.wrong(4, 0, 8);
        due("at 1", up.day(1), 1);
    }

    static void p12_thoseThatComeDownArentMerged() {
        ApologyUp up = Makings.star(2);
        up.wrong(1, 0, 8);
        up.wrong(2, 0, 8);
        due("two are pardoned", up.day(1), 0);
        due("at the same one", up.of(0, 5), 2);
    }

    static void p12_thoseThatAreDoneWithArentMerged() {
        ApologyUp up = Makings.chain(2, 0);
        up.wrong(1, 0, 8);
        up.day(2);
        up.wrong(1, 0, 8);
        up.away(1, 9);
        due("at the same one as one done with", up.day(1), 0);
    }

    static void p12_thoseThatWaitOrAreWithAnAwayOneAreMergedToo() {
        ApologyUp up = Makings.chain(2, 0);
        up.away(1, 5);
        up.wrong(1, 0, 8);
        up.wrong(1, 0, 8);
        due("merged", up.day(1), 1);
        ApologyUp waiting = Makings.family();
        waiting.cousin(3, 5);
        waiting.wrong(3, 0, 8);
        waiting.wrong(3, 0, 8);
        waiting.sideways(0, 5);
        waiting.sideways(1, 5);
        due("merged", waiting.day(1), 1);
    }

    static void p12_oneRefusedIsMergedOnTheSameDay() {
        ApologyUp up = Makings.ruled(Makings.family(), "adds 0;pardons 0;");
        up.cousin(3, 1);
        up.wrong(1, 0, 3);
        up.wrong(3, 0, 5);
        due("0 is refused to 1, whereto 1 came", up.day(1), 1);
        due("6 and half of 5", up.ofApology(0, 3), 8);
    }

    static void p12_dayInALawIsTheDayThatPasses() {
        ApologyUp up = Makings.on(Makings.ruled(Makings.chain(3, 0), "adds day*10;pardons 10;wears day;"), 4);
        up.wrong(2, 0, 1);
        up.day(1);
        due("adds on day 4", up.ofApology(0, 3), 41);
        up.day(2);
        due("wears on day 6", up.ofApology(0, 3), 6);
    }

    static void p12_daysAreSinceItBegan() {
        ApologyUp up = Makings.on(Makings.ruled(Makings.chain(3, 0), "adds 5+days*10;pardons days;"), 4);
        up.wrong(2, 0, 1);
        up.day(1);
        due("adds, 0 days", up.ofApology(0, 3), 6);
        up.day(1);
        due("adds, 1 day, and twice", up.ofApology(0, 3), 42);
        due("the draw is 1: with pardons of 1 it is refused", up.ofApology(0, 4), 0);
        up.day(2);
        due("the draw is 0: with pardons of 3 it isn't", up.ofApology(0, 4), 1);
    }

    static void p12_sizeInPardonsIsWithWhatWasAdded() {
        ApologyUp up = Makings.ruled(Makings.star(2), "adds 5;pardons if size=12 then 10 else 0 end;");
        up.wrong(1, 0, 7);
        up.wrong(2, 0, 12);
        up.day(1);
        due("7 and 5", up.ofApology(0, 4), 1);
        due("12 and 5", up.ofApology(1, 4), 0);
    }

    static void p12_sizeInAddsAndWearsIsAsItWas() {
        ApologyUp up = Makings.ruled(Makings.chain(2, 0), "adds size*2;pardons 10;wears size-1;");
        up.wrong(1, 0, 7);
        up.day(1);
        due("7 and 14", up.ofApology(0, 3), 21);
        up.day(1);
        due("21 less 1", up.ofApology(0, 3), 20);
    }

    static void p12_whoIsTheOneItComesToInAllLaws() {
        ApologyUp up = Makings.ruled(Makings.chain(4, 0), "adds who*100+rank*10;pardons 10-who;wears who+rank*10;");
        up.wrong(3, 1, 1);
        up.day(1);
        due("2 adds", up.ofApology(0, 3), 221);
        up.day(1);
        due("1 adds, and pardons", up.ofApology(0, 3), 331);
        up.day(1);
        due("worn coming to 2", up.ofApology(0, 3), 22);
        up.day(1);
        due("worn coming to 3", up.ofApology(0, 3), 33);
    }

    static void p12_howManyAreDoneWithInAllItsDays() {
        ApologyUp up = Makings.star(3);
        up.wrong(1, 0, 8);
        up.wrong(2, 0, 8);
        up.wrong(3, 0, 8);
        up.away(3, 1);
        due("in three days", up.day(3), 3);
    }

    // ---- 13: played ----

    static void p13_othersAreMinus2() {
        ApologyUp up = new ApologyUp();
        due("without texts", up.played(0), -2);
        Checks.read(up, "day 1;");
        due("NONE", up.played(NONE), -2);
        due("1", up.played(1), -2);
        due("4", up.played(4), -2);
        due("the most", up.played(MAX), -2);
        due("the least", up.played(MIN), -2);
        due("no day passed", up.is(0), 0);
        due("0", up.played(0), NONE);
    }

    static void p13_anEmptyTextIsDone() {
        ApologyUp up = new ApologyUp();
        Checks.read(up, "");
        due("all is done", up.played(0), NONE);
        due("steps", up.about(3), 0);
    }

    static void p13_justItsOwnClausesArePlayed() {
        ApologyUp up = new ApologyUp();
        due("one with a fault", Checks.read(up, "day 1;day 1;day 1;!"), NONE);
        due("one of one clause", Checks.read(up, "day 1;"), 0);
        due("all is done", up.played(0), NONE);
        due("one day", up.is(0), 1);
        due("one with a fault", Checks.read(up, "day 1;day 1;day 1;!"), NONE);
        due("an empty one", Checks.read(up, ""), 1);
        due("all is done", up.played(1), NONE);
        due("no day", up.is(0), 1);
    }

    static void p13_all24Clauses() {
        ApologyUp up = new ApologyUp();
        Checks.read(up, Makings.times("day 1;", 24));
        due("all is done", up.played(0), NONE);
        due("24 days", up.is(0), 24);
    }

    static void p13_lawsArentPlayed() {
        ApologyUp up = Makings.chain(1, 3);
        Checks.read(up, "adds 9;pardons 9;wears 9;");
        due("all is done", up.played(0), NONE);
        due("steps", up.about(3), 0);
        due("none rules", up.about(2), NONE);
        due("adds", up.of(0, 4), 4);
    }

    static void p13_theNumberIsAmongAllClauses() {
        ApologyUp up = new ApologyUp();
        Checks.read(up, "adds 1;day 1;wears 1;send 0 to 0;");
        due("the fourth", up.played(0), 3);
        Checks.read(up, Makings.times("day 1;", 23) + "send 0 to 0;");
        due("the last of 24", up.played(1), 23);
        Checks.read(up, "send 0 to 0;");
        due("the first", up.played(2), 0);
    }

    static void p13_oneThatCantBeEndsItAndWhatWasDoneStays() {
        ApologyUp up = new ApologyUp();
        Checks.read(up, "day 2;away 0 days 1;day 5;");
        due("the second", up.played(0), 1);
        due("what was done", up.is(0), 2);
        due("steps", up.about(3), 2);
    }

    static void p13_theFirstOneCantBeToldSo() {
        ApologyUp up = new ApologyUp();
        Checks.read(up, "officer 1 under 0;");
        due("officer", up.played(0), 0);
        due("nobody", up.about(0), 0);
    }

    static void p13_officerIsPrideAndBoss() {
        ApologyUp up = Makings.chain(9, 0);
        Checks.read(up, "officer 9 under 8;officer 0 under 0;");
        due("an eleventh", up.played(0), 1);
        due("pride", up.of(9, 1), 9);
        due("boss", up.of(9, 0), 8);
        ApologyUp few = Makings.chain(1, 0);
        Checks.read(few, "officer 0 under 1;");
        due("a boss that isn't told", few.played(0), 0);
    }

    /** Where a text of one clause ends with the cousins of BoundaryStepsTest.cousins. */
    private static int playedByCousins(String clause) {
        ApologyUp up = cousins();
        Checks.read(up, clause);
        return up.played(0);
    }

    static void p13_eachClauseAsByHand() {
        due("cousins already", playedByCousins("cousin 5 to 3;"), 0);
        due("cousins alike", playedByCousins("cousin 5 to 5;"), 0);
        due("cousins", playedByCousins("cousin 5 to 4;"), NONE);
        due("a wrong to one below", playedByCousins("wrong 0 to 1 size 1;"), 0);
        due("a wrong", playedByCousins("wrong 1 to 0 size 9999;"), NONE);
        due("away, not told", playedByCousins("away 6 days 1;"), 0);
        due("away", playedByCousins("away 5 days 99;"), NONE);
        due("sent to no cousin", playedByCousins("send 0 to 2;"), 0);
        due("sent, not there", playedByCousins("send 2 to 5;"), 0);
        due("sent", playedByCousins("send 0 to 5;"), NONE);
        due("sent again", playedByCousins("send 0 to 5;send 0 to 3;"), 1);
    }

    static void p13_anEleventhWrongCantBe() {
        ApologyUp up = Makings.chain(2, 0);
        Checks.read(up, Makings.times("wrong 1 to 0 size 1;", 11));
        due("the eleventh", up.played(0), 10);
        due("ten", up.is(2), 10);
    }

    static void p13_ofSoManyDaysThoseThatCanPassDo() {
        ApologyUp up = Makings.on(new ApologyUp(), 9940);
        Checks.read(up, "day 60;day 1;");
        due("60 days of 59", up.played(0), 0);
        due("those that can", up.is(0), 9999);
        due("none more", up.played(0), 0);
        ApologyUp just = Makings.on(new ApologyUp(), 9939);
        Checks.read(just, "day 60;");
        due("60 days of 60", just.played(0), NONE);
        due("the last one", just.is(0), 9999);
    }

    static void p13_eachDayIsAStep() {
        ApologyUp up = new ApologyUp();
        Checks.read(up, "day 3;day 1;");
        up.played(0);
        due("steps", up.about(3), 4);
    }

    // ---- 14: years ----

    static void p14_seedIsAtLeast0() {
        ApologyUp up = new ApologyUp();
        due("-1", up.years(-1, 1), NONE);
        due("the least", up.years(MIN, 1), NONE);
        due("x", up.is(1), 181);
        due("steps", up.about(3), 0);
        due("0", up.years(0, 1), 0);
        due("x", up.is(1), 15430);
    }

    static void p14_seedIsAtMost9999() {
        ApologyUp up = new ApologyUp();
        due("10000", up.years(10000, 1), NONE);
        due("the most", up.years(MAX, 1), NONE);
        due("x", up.is(1), 181);
        due("9999 makes x 20179, a day", up.years(9999, 1), 1);
        due("x", up.is(1), 5824);
    }

    static void p14_thereIsAtLeastOneDraw() {
        ApologyUp up = new ApologyUp();
        due("0", up.years(0, 0), NONE);
        due("-1", up.years(0, -1), NONE);
        due("the least", up.years(0, MIN), NONE);
        due("x", up.is(1), 181);
        due("steps", up.about(3), 0);
    }

    static void p14_thereAreAtMost40Draws() {
        ApologyUp up = new ApologyUp();
        due("41", up.years(1836, 41), NONE);
        due("the most", up.years(1836, MAX), NONE);
        due("x", up.is(1), 181);
        // All draws of that seed are days.
        due("40", up.years(1836, 40), 40);
    }

    static void p14_withNobodyThereAreJustDays() {
        ApologyUp up = new ApologyUp();
        // 181 is an absence, 15430 a wrong, 22069 a day.
        due("three draws", up.years(0, 3), 1);
        due("apologies", up.is(2), 0);
        due("x", up.is(1), 7500);
        due("one step", up.about(3), 1);
    }

    static void p14_aWrongOfTheFirstOneIsnt() {
        // 185 mod 5 is 0, so is 185 mod 1; 185 mod 2 is 1.
        ApologyUp one = Makings.chain(1, 0);
        due("of one officer", one.years(2, 1), 0);
        due("none", one.is(2), 0);
        due("a step even so", one.about(3), 1);
        ApologyUp two = Makings.chain(2, 0);
        two.years(2, 1);
        due("of two officers", two.is(2), 1);
        due("from", two.ofApology(0, 0), 1);
        due("to", two.ofApology(0, 1), 0);
        due("size", two.ofApology(0, 3), 6);
    }

    static void p14_theLeastSizeIs1() {
        // 309 is a day; 8240 mod 5 is 0, mod 3 is 2, mod 20 is 0.
        ApologyUp up = Makings.chain(3, 0);
        due("a day and a wrong", up.years(64, 2), 1);
        due("from", up.ofApology(0, 0), 2);
        due("size", up.ofApology(0, 3), 1);
        due("began", up.ofApology(0, 5), 1);
    }

    static void p14_anEleventhWrongIsnt() {
        ApologyUp up = Makings.chain(2, 0);
        for (int i = 0; i < 10; i++) {
            up.wrong(1, 0, 1);
        }
        due("185", up.years(2, 1), 0);
        due("ten", up.is(2), 10);
        due("x", up.is(1), (185 * 421 + 307) % 30539);
    }

    static void p14_awayFor0DaysIsNot() {
        // 581 mod 5 is 1, mod 3 is 2, mod 4 is 1; 596 mod 5 is 1, mod 3 is 2, mod 4 is 0.
        ApologyUp up = Makings.chain(3, 0);
        up.years(200, 1);
        due("till", up.of(2, 3), 1);
        up.years(200, 2);
        due("not", up.of(2, 3), 0);
    }

    static void p14_at9999NoDayPasses() {
        ApologyUp up = Makings.on(Makings.chain(2, 0), 9998);
        due("40 days", up.years(1836, 40), 9999);
        due("day", up.is(0), 9999);
        due("and no more", up.years(1836, 40), 9999);
    }

    static void p14_itIsOneStep() {
        ApologyUp up = Makings.chain(4, 2);
        up.years(7, 40);
        due("steps", up.about(3), 1);
        due("undo", up.undo(), 0);
        due("day", up.is(0), 0);
        due("x", up.is(1), 181);
        due("apologies", up.is(2), 0);
        due("away", up.of(1, 3) + up.of(2, 3) + up.of(3, 3) + up.of(0, 3), 0);
        due("book", up.book(NONE, 0), 0);
    }

    // ---- 15: undo ----

    static void p15_noneIsThere() {
        ApologyUp up = new ApologyUp();
        due("at first", up.undo(), NONE);
        up.day(1);
        due("the latest", up.undo(), 0);
        due("none any more", up.undo(), NONE);
        due("day", up.is(0), 0);
    }

    static void p15_theLatest30CanBe() {
        ApologyUp up = new ApologyUp();
        up.day(29);
        due("29", up.about(3), 29);
        up.day(1);
        due("30", up.about(3), 30);
        up.day(1);
        due("30 of 31", up.about(3), 30);
        for (int i = 29; i >= 0; i--) {
            due("yet", up.undo(), i);
        }
        due("none", up.undo(), NONE);
        due("the eldest was lost", up.is(0), 1);
    }

    static void p15_eachDayIsTakenBackByItself() {
        ApologyUp up = new ApologyUp();
        up.day(5);
        due("yet", up.undo(), 4);
        due("day", up.is(0), 4);
    }

    static void p15_eachKindOfStep() {
        ApologyUp up = Makings.family();
        up.cousin(3, 5);
        up.wrong(3, 0, 4);
        up.sideways(0, 5);
        up.away(5, 3);
        up.day(1);
        up.years(0, 1);
        due("steps", up.about(3), 5);
        due("years", up.undo(), 4);
        due("x", up.is(1), 181);
        due("day", up.undo(), 3);
        due("the day", up.is(0), 0);
        due("away", up.undo(), 2);
        due("not away", up.of(5, 3), 0);
        due("sideways", up.undo(), 1);
        due("at", up.ofApology(0, 2), 3);
        due("waits", up.ofApology(0, 6), 0);
        due("wrong", up.undo(), 0);
        due("apologies", up.is(2), 0);
    }

    static void p15_apologiesAwayDayXAndBookAreAsAheadOfIt() {
        ApologyUp up = Makings.chain(2, 0);
        up.wrong(1, 0, 9);
        up.away(1, 1);
        up.day(2);
        due("the book", up.book(NONE, 0), 1);
        due("x", up.is(1), 15430);
        up.undo();
        due("the book", up.book(NONE, 0), 0);
        due("x", up.is(1), 181);
        due("size", up.ofApology(0, 3), 9);
        due("how", up.ofApology(0, 4), 0);
        due("away", up.of(1, 3), 1);
        due("day", up.is(0), 1);
    }

    static void p15_theBooksEldestComesAgain() {
        ApologyUp up = Makings.ruled(Makings.chain(2, 0), "pardons 0;");
        up.wrong(1, 0, 1);
        up.day(31);
        due("the eldest of 30", up.book(0, 0), 1);
        up.undo();
        due("the eldest", up.book(0, 0), 0);
        due("30", up.book(NONE, 0), 30);
    }

    static void p15_officersAndCousinsStay() {
        ApologyUp up = Makings.chain(2, 0);
        up.day(1);
        up.officer(1, 7);
        up.cousin(2, 0);
        up.away(2, 5);
        up.undo();
        due("undo", up.undo(), 0);
        due("officers", up.about(0), 3);
        due("pride", up.of(2, 1), 7);
        due("cousins", up.of(2, 6), 1);
        due("not away", up.of(2, 3), 0);
    }

    static void p15_whatElseIsToldStays() {
        ApologyUp up = Makings.chain(2, 0);
        up.day(1);
        Makings.ruled(up, "adds 7;");
        up.pile(3);
        up.added(1, 7);
        up.weigh(1, 50);
        up.owes(0, 0, 9);
        Checks.tape(up, "day");
        due("just the day is a step", up.undo(), 0);
        due("texts", up.about(1), 1);
        due("the text", up.about(2), 0);
        due("pile", up.about(4), 1);
        due("added", up.about(5), 1);
        due("tape", up.about(6), 3);
        due("weights", up.apart(true), 50);
        due("turns", up.play(0, true), 1);
    }

    static void p15_whatIsRefusedIsNoStep() {
        ApologyUp up = Makings.chain(2, 0);
        up.wrong(0, 1, 1);
        up.away(2, 1);
        up.away(0, 100);
        up.sideways(0, 1);
        up.day(61);
        up.years(0, 41);
        due("steps", up.about(3), 0);
        due("undo", up.undo(), NONE);
    }

    static void p15_behindAnUndoStepsGoOn() {
        ApologyUp up = new ApologyUp();
        up.day(35);
        up.undo();
        up.undo();
        due("yet", up.about(3), 28);
        up.day(3);
        due("30 again", up.about(3), 30);
        due("day", up.is(0), 36);
        for (int i = 0; i < 30; i++) {
            up.undo();
        }
        due("day", up.is(0), 6);
        due("none", up.undo(), NONE);
    }
}
