/** Boundary cases of promises 22 to 44: routes, piles, orders, sets, the play, whose law, and sums. */
public final class BoundaryQuestionTest {
    private static final int NONE = ApologyUp.NONE;
    private static final int MIN = Integer.MIN_VALUE;
    private static final int MAX = Integer.MAX_VALUE;

    public static void main(String[] args) throws IllegalAccessException {
        Cases.run(BoundaryQuestionTest.class);
    }

    private static void due(String call, long got, long want) {
        Checks.due(call, got, want);
    }

    private static void yes(String call, boolean got) {
        Checks.due(call, got, true);
    }

    private static void no(String call, boolean got) {
        Checks.due(call, got, false);
    }

    // ---- 22, 23: meets and steps ----

    static void p22_others() {
        ApologyUp up = Makings.chain(2, 0);
        due("2", up.meets(0, 2), NONE);
        due("2", up.meets(2, 0), NONE);
        due("NONE", up.meets(NONE, 0), NONE);
        due("NONE", up.meets(0, NONE), NONE);
        due("the most", up.meets(MAX, 0), NONE);
        due("the least", up.meets(0, MIN), NONE);
        due("nobody", new ApologyUp().meets(0, 0), NONE);
    }

    static void p22_ofOneAndItself() {
        ApologyUp up = Makings.family();
        due("5", up.meets(5, 5), 5);
        due("0", up.meets(0, 0), 0);
    }

    static void p22_oneThatIsAboveTheOther() {
        ApologyUp up = Makings.family();
        due("1 and 3", up.meets(1, 3), 1);
        due("3 and 1", up.meets(3, 1), 1);
        due("0 and 5", up.meets(0, 5), 0);
        due("9 and 4 of a chain", Makings.chain(10, 0).meets(9, 4), 4);
    }

    static void p22_theHighestRankAboveBoth() {
        ApologyUp up = Makings.family();
        due("3 and 4", up.meets(3, 4), 1);
        due("4 and 5", up.meets(4, 5), 0);
        due("5 and 4", up.meets(5, 4), 0);
    }

    static void p23_others() {
        ApologyUp up = Makings.chain(2, 0);
        due("2", up.steps(0, 2), NONE);
        due("2", up.steps(2, 0), NONE);
        due("NONE", up.steps(NONE, 0), NONE);
        due("NONE", up.steps(0, NONE), NONE);
        due("the most", up.steps(MAX, 0), NONE);
        due("the least", up.steps(0, MIN), NONE);
        due("nobody", new ApologyUp().steps(0, 0), NONE);
    }

    static void p23_toItself0() {
        due("0", Makings.chain(1, 0).steps(0, 0), 0);
        due("5", Makings.family().steps(5, 5), 0);
    }

    static void p23_theMostIs9() {
        due("9 to 0", Makings.chain(10, 0).steps(9, 0), 9);
        due("0 to 9", Makings.chain(10, 0).steps(0, 9), 9);
    }

    static void p23_cousinsAreNoStep() {
        ApologyUp up = Makings.family();
        up.cousin(3, 5);
        due("3 to 5", up.steps(3, 5), 4);
    }

    // ---- 24: route ----

    static void p24_othersAreMinus4() {
        ApologyUp up = Makings.chain(3, 0);
        for (int i = -3; i <= 0; i++) {
            due("from 3, " + i, up.route(3, 0, i), -4);
            due("to 3, " + i, up.route(2, 3, i), -4);
            due("from NONE, " + i, up.route(NONE, 0, i), -4);
            due("to NONE, " + i, up.route(2, NONE, i), -4);
            due("from the most, " + i, up.route(MAX, 0, i), -4);
            due("to the least, " + i, up.route(2, MIN, i), -4);
            due("nobody, " + i, new ApologyUp().route(0, 0, i), -4);
        }
    }

    static void p24_toIsAboveFrom() {
        ApologyUp up = Makings.family();
        for (int i = -3; i <= 0; i++) {
            due("itself, " + i, up.route(3, 3, i), -4);
            due("the first to itself, " + i, up.route(0, 0, i), -4);
            due("below, " + i, up.route(0, 3, i), -4);
            due("beside, " + i, up.route(3, 2, i), -4);
        }
    }

    static void p24_noneSuchIsMinus4() {
        ApologyUp up = Makings.chain(3, 0);
        due("the second", up.route(2, 0, 1), 0);
        due("the third of two", up.route(2, 0, 2), -4);
        due("-4", up.route(2, 0, -4), -4);
        due("the most", up.route(2, 0, MAX), -4);
        due("the least", up.route(2, 0, MIN), -4);
    }

    static void p24_oneStep() {
        ApologyUp up = Makings.chain(2, 9);
        due("days", up.route(1, 0, -2), 1);
        due("size", up.route(1, 0, -3), 20);
        due("how many", up.route(1, 0, NONE), 1);
        due("the first", up.route(1, 0, 0), 0);
    }

    static void p24_nineSteps() {
        ApologyUp up = Makings.ruled(Makings.chain(10, 0), "adds 9999;");
        due("days", up.route(9, 0, -2), 9);
        due("size", up.route(9, 0, -3), 9001);
        due("how many", up.route(9, 0, NONE), 9);
        for (int i = 0; i < 9; i++) {
            due("the next", up.route(9, 0, i), 8 - i);
        }
        due("no more", up.route(9, 0, 9), -4);
    }

    static void p24_aCousinThatIsntBelowTo() {
        ApologyUp up = Makings.chain(6, 0);
        up.cousin(5, 1);
        due("1 is to", up.route(5, 1, -2), 4);
        due("1 is above to", up.route(5, 2, -2), 3);
        due("1 is below to", up.route(5, 0, -2), 3);
        up.cousin(5, 0);
        due("0 is to", up.route(5, 0, -2), 3);
    }

    static void p24_aCousinBesideTo() {
        ApologyUp up = new ApologyUp();
        up.officer(NONE, 0);
        up.officer(0, 0);
        up.officer(0, 0);
        up.officer(1, 0);
        up.officer(3, 0);
        up.officer(4, 0);
        up.cousin(5, 2);
        due("to 1: 2 isn't below it", up.route(5, 1, -2), 3);
        due("to 0: 2 is", up.route(5, 0, -2), 3);
        due("by 2", up.route(5, 0, 0), 2);
    }

    static void p24_aBossThatIsACousinIsOneDay() {
        ApologyUp up = Makings.chain(3, 0);
        up.cousin(2, 1);
        due("days", up.route(2, 0, -2), 2);
        due("size", up.route(2, 0, -3), 12);
    }

    static void p24_fewestDaysAheadOfSize() {
        ApologyUp up = Makings.ruled(Makings.chain(4, 0), "adds 100;");
        up.cousin(3, 2);
        up.cousin(2, 1);
        due("the straight way", up.route(3, 0, -2), 3);
        due("is greater", up.route(3, 0, -3), 310);
    }

    static void p24_aSmallerWayOfMoreDaysIsnt() {
        ApologyUp up = Makings.ruled(Makings.chain(3, 0), "adds 100;");
        up.officer(0, 0);
        up.cousin(2, 3);
        due("by 1, not by the cousin 3", up.route(2, 0, 0), 1);
        due("days", up.route(2, 0, -2), 2);
        due("size", up.route(2, 0, -3), 210);
    }

    static void p24_daysAndDeskAre0BehindADay() {
        ApologyUp up = Makings.ruled(Makings.chain(3, 0), "adds desk*100+days*10+1;");
        up.wrong(1, 0, 9);
        up.wrong(2, 0, 9);
        up.away(1, 9);
        up.away(2, 1);
        up.day(2);
        due("the latest had desk and days", up.ofApology(0, 3), 9 + 111 + 4);
        due("size", up.route(2, 0, -3), 12);
    }

    static void p24_ofLikeDaysTheLeastSize() {
        ApologyUp up = Makings.chain(4, 0);
        up.cousin(3, 1);
        due("days", up.route(3, 0, -2), 3);
        due("by the cousin", up.route(3, 0, -3), 11);
        due("how many", up.route(3, 0, NONE), 2);
        due("first", up.route(3, 0, 0), 1);
    }

    static void p24_ofLikeSizesTheLowestNext() {
        ApologyUp up = Makings.ruled(Makings.chain(4, 0), "adds 0;");
        up.cousin(3, 1);
        due("the lowest next", up.route(3, 0, 0), 1);
        ApologyUp wide = Makings.ruled(Makings.star(3), "adds 0;");
        wide.officer(1, 0);
        wide.officer(4, 0);
        // From 5 by 4 and 1, or by the cousins 2 or 3: three days each.
        wide.cousin(5, 3);
        wide.cousin(5, 2);
        due("days", wide.route(5, 0, -2), 3);
        due("the lowest next", wide.route(5, 0, 0), 2);
    }

    static void p24_thenTheNext() {
        ApologyUp up = Makings.ruled(Makings.star(3), "adds 0;");
        up.officer(3, 0);
        up.officer(4, 0);
        up.officer(5, 0);
        // 6 goes to 5, and from there by 4 and 3 or by the cousins 1 or 2.
        up.cousin(5, 2);
        up.cousin(5, 1);
        due("days", up.route(6, 0, -2), 4);
        due("first", up.route(6, 0, 0), 5);
        due("then the lowest", up.route(6, 0, 1), 1);
        due("then", up.route(6, 0, 2), 0);
    }

    static void p24_nobodyIsAwayAndNothingOnAnyDesk() {
        ApologyUp up = Makings.ruled(Makings.chain(3, 0), "adds 1+desk*100+days*50;");
        up.wrong(1, 0, 5);
        up.away(1, 99);
        up.away(2, 99);
        up.day(3);
        due("days", up.route(2, 0, -2), 2);
        due("size", up.route(2, 0, -3), 12);
    }

    static void p24_theDayIsAsNowAllTheWay() {
        ApologyUp up = Makings.on(Makings.ruled(Makings.chain(3, 0), "adds day;"), 7);
        due("size", up.route(2, 0, -3), 24);
    }

    static void p24_theNamesOnTheWay() {
        ApologyUp up = Makings.ruled(Makings.chain(4, 0), "adds who*100+from*10+to+rank;");
        // To 2: 200, 30, 1, 2; to 1: 100, 30, 1, 1.
        due("size", up.route(3, 1, -3), 10 + 233 + 132);
    }

    static void p24_sizeOnTheWayIsWhatItIsThen() {
        ApologyUp up = Makings.ruled(Makings.chain(3, 0), "adds size;");
        due("10, 20, 40", up.route(2, 0, -3), 40);
    }

    /** All that promises 16 to 19 and 47 tell. */
    private static String tale(ApologyUp up) {
        StringBuilder tale = new StringBuilder();
        for (int what = 0; what <= 7; what++) {
            for (int i = 0; i < 10; i++) {
                tale.append(up.of(i, what)).append(' ').append(up.ofApology(i, what)).append(' ');
            }
            tale.append(up.is(what)).append(' ').append(up.about(what)).append(' ').append(up.book(what, 3)).append(' ');
        }
        return tale.append(up.book(NONE, 0)).toString();
    }

    static void p24_whatIsAskedChangesNothing() {
        ApologyUp up = Makings.ruled(Makings.family(), "adds who+desk;pardons 5;");
        up.cousin(3, 5);
        up.wrong(3, 0, 5);
        up.wrong(4, 0, 6);
        up.wrong(5, 2, 7);
        up.sideways(0, 5);
        up.away(4, 3);
        up.day(2);
        up.pile(3);
        up.added(1, 1);
        String ahead = tale(up);
        up.foretold(60, 0, 1);
        up.pardoned(1);
        up.meets(3, 5);
        up.steps(3, 5);
        up.route(3, 0, -3);
        up.piles(3, 1);
        up.ask(3);
        up.orders();
        up.first(5);
        up.apart(true);
        up.middle();
        up.longest(true);
        up.parts(1);
        up.deputies();
        up.ranked(2, true);
        up.play(1, false);
        up.whose();
        up.stuck();
        up.eldest();
        up.sorry(NONE);
        up.befell(1);
        yes("all is as ahead of it", ahead.equals(tale(up)));
        due("steps", up.about(3), 7);
    }

    // ---- 25 to 27: the pile ----

    static void p25_sizeIs1To999() {
        ApologyUp up = new ApologyUp();
        due("0", up.pile(0), -2);
        due("-2", up.pile(-2), -2);
        due("1000", up.pile(1000), -2);
        due("the most", up.pile(MAX), -2);
        due("the least", up.pile(MIN), -2);
        due("none came", up.about(4), 0);
        due("1", up.pile(1), 1);
        due("999", up.pile(999), 2);
    }

    static void p25_thereAreEightAtMost() {
        ApologyUp up = new ApologyUp();
        for (int i = 1; i <= 8; i++) {
            due("the next", up.pile(999), i);
        }
        due("a ninth", up.pile(1), -2);
        due("how many", up.about(4), 8);
        due("all together", up.piles(7992, 0), 1);
        due("all in all", up.piles(7992, 1), 255);
        due("with the ninth", up.piles(1, 0), 0);
    }

    static void p25_noneAnyMore() {
        ApologyUp up = new ApologyUp();
        due("none of none", up.pile(NONE), 0);
        for (int i = 1; i <= 8; i++) {
            up.pile(i);
        }
        due("none of eight", up.pile(NONE), 0);
        due("about", up.about(4), 0);
        due("one again", up.pile(5), 1);
        due("just that one", up.piles(1, 0), 0);
    }

    static void p26_totalIs0To9999() {
        ApologyUp up = new ApologyUp();
        up.pile(5);
        due("-1", up.piles(-1, 0), NONE);
        due("10000", up.piles(10000, 0), NONE);
        due("the most", up.piles(MAX, 0), NONE);
        due("the least", up.piles(MIN, 0), NONE);
        due("9999", up.piles(9999, 0), 0);
        due("0", up.piles(0, 0), 1);
    }

    static void p26_otherWhats() {
        ApologyUp up = new ApologyUp();
        up.pile(5);
        due("3", up.piles(5, 3), NONE);
        due("-1", up.piles(5, -1), NONE);
        due("the most", up.piles(5, MAX), NONE);
        due("the least", up.piles(5, MIN), NONE);
        due("3, without any set", up.piles(6, 3), NONE);
    }

    static void p26_withoutAnySet0Each() {
        ApologyUp up = new ApologyUp();
        up.pile(5);
        up.pile(7);
        due("how many", up.piles(6, 0), 0);
        due("in all", up.piles(6, 1), 0);
        due("in none", up.piles(6, 2), 0);
    }

    static void p26_anEmptyPile() {
        ApologyUp up = new ApologyUp();
        due("of 0 the empty set", up.piles(0, 0), 1);
        due("in all", up.piles(0, 1), 0);
        due("in none", up.piles(0, 2), 0);
        due("of 1 none", up.piles(1, 0), 0);
    }

    static void p26_total0IsTheEmptySet() {
        ApologyUp up = new ApologyUp();
        up.pile(1);
        up.pile(2);
        due("how many", up.piles(0, 0), 1);
        due("in all", up.piles(0, 1), 0);
        due("in none, of those there", up.piles(0, 2), 3);
    }

    static void p26_likeSizesAreUnlikeSets() {
        ApologyUp up = new ApologyUp();
        for (int i = 0; i < 8; i++) {
            up.pile(1);
        }
        due("four of eight", up.piles(4, 0), 70);
        due("in all", up.piles(4, 1), 0);
        due("in none", up.piles(4, 2), 0);
        due("eight of eight", up.piles(8, 1), 255);
        due("none of eight", up.piles(0, 2), 255);
    }

    static void p27_totalIs0To9999() {
        ApologyUp up = new ApologyUp();
        up.pile(5);
        up.pile(5);
        due("-1", up.ask(-1), NONE);
        due("10000", up.ask(10000), NONE);
        due("the most", up.ask(MAX), NONE);
        due("the least", up.ask(MIN), NONE);
        due("9999", up.ask(9999), NONE);
        due("0", up.ask(0), NONE);
        due("5", up.ask(5), 0);
    }

    static void p27_noneThatIsInAllOrInNone() {
        ApologyUp up = new ApologyUp();
        due("an empty pile", up.ask(0), NONE);
        up.pile(5);
        up.pile(7);
        due("just one set", up.ask(5), NONE);
        due("just one set of both", up.ask(12), NONE);
        up.pile(7);
        due("0 is in all, 1 and 2 in half", up.ask(12), 1);
        due("0 is in none, 1 and 2 in half", up.ask(7), 1);
    }

    static void p27_asNearToHalfAsCanBe() {
        ApologyUp up = new ApologyUp();
        up.pile(1);
        up.pile(4);
        up.pile(4);
        up.pile(4);
        up.pile(5);
        // Of 5: 1 and a 4 (three such sets), or 5 alone: 1 is in 3 of 4, each other one in 1 of 4.
        due("3 of 4 and 1 of 4 are alike", up.ask(5), 0);
        // Of 9: 5 and a 4 (three), or 1 and two 4s (three): each is in 3 of 6.
        due("half", up.ask(9), 0);
        // Of 8: two 4s (three): each 4 is in 2 of 3, the others in none.
        due("two of three", up.ask(8), 1);
    }

    static void p27_ofAFullPile() {
        ApologyUp up = new ApologyUp();
        for (int i = 0; i < 8; i++) {
            up.pile(1);
        }
        due("4", up.ask(4), 0);
        due("8", up.ask(8), NONE);
        due("9", up.ask(9), NONE);
    }

    static void p27_halfIsNearerThanMore() {
        ApologyUp up = new ApologyUp();
        // Of 5: a 3 and two of the 1s: each 1 is in 4 of 6, each 3 in 3 of 6.
        up.pile(1);
        up.pile(1);
        up.pile(1);
        up.pile(3);
        up.pile(3);
        due("3 of 6", up.ask(5), 3);
    }

    static void p27_moreThanHalfIsAsNearAsLess() {
        ApologyUp up = new ApologyUp();
        // Of 4: 4, or 3 and a 1 (two such sets).
        up.pile(3);
        up.pile(4);
        up.pile(1);
        up.pile(1);
        due("2 of 3 ahead of 1 of 3", up.ask(4), 0);
    }

    static void p27_halfIsNearerThanLess() {
        ApologyUp up = new ApologyUp();
        // Of 4: 4, or 3 and a 1 (two such sets): 4 is in 1 of 3, 3 in 2 of 3, each 1 in 1 of 3.
        up.pile(4);
        up.pile(3);
        up.pile(1);
        up.pile(1);
        due("1 of 3 and 2 of 3 are alike", up.ask(4), 0);
        ApologyUp four = new ApologyUp();
        // Of 6: 6, 5 1, 4 2, 3 2 1: each of 6 5 4 3 is in 1 of 4, 2 and 1 are in 2 of 4.
        for (int size = 6; size >= 1; size--) {
            four.pile(size);
        }
        due("2 of 4", four.ask(6), 4);
    }

    // ---- 28, 29: orders ----

    static void p28_withoutAny1() {
        due("nobody", new ApologyUp().orders(), 1);
        due("one", Makings.chain(1, 0).orders(), 1);
    }

    static void p28_theMostAndTheFewestOfTen() {
        due("a star", Makings.star(9).orders(), 362880);
        due("a chain", Makings.chain(10, 0).orders(), 1);
        due("a family", Makings.family().orders(), 20);
    }

    static void p29_others() {
        ApologyUp up = Makings.chain(3, 0);
        due("nobody", new ApologyUp().first(0), NONE);
        due("3 of 3", up.first(3), NONE);
        due("2 of 3", up.first(2), 2);
        due("NONE", up.first(NONE), NONE);
        due("the most", up.first(MAX), NONE);
        due("the least", up.first(MIN), NONE);
    }

    static void p29_ofLikeOnesTheLowest() {
        ApologyUp up = Makings.star(9);
        for (int i = 0; i < 10; i++) {
            due("the next", up.first(i), i);
        }
    }

    static void p29_theProudestWhoseBossIsPromoted() {
        ApologyUp up = new ApologyUp();
        up.officer(NONE, 0);
        up.officer(0, 1);
        up.officer(1, 9);
        up.officer(0, 2);
        up.officer(3, 2);
        int[] want = {0, 3, 4, 1, 2};
        for (int i = 0; i < 5; i++) {
            due("the next", up.first(i), want[i]);
        }
    }

    // ---- 30, 31: apart ----

    static void p30_weightIs0To99() {
        ApologyUp up = Makings.chain(1, 0);
        no("-1", up.weigh(0, -1));
        no("100", up.weigh(0, 100));
        no("the most", up.weigh(0, MAX));
        no("the least", up.weigh(0, MIN));
        due("it stays", up.apart(true), 1);
        yes("0", up.weigh(0, 0));
        due("0", up.apart(true), 0);
        yes("99", up.weigh(0, 99));
        due("99", up.apart(true), 99);
    }

    static void p30_others() {
        ApologyUp up = Makings.chain(2, 0);
        no("2", up.weigh(2, 1));
        no("NONE", up.weigh(NONE, 1));
        no("the most", up.weigh(MAX, 1));
        no("the least", up.weigh(MIN, 1));
        no("nobody", new ApologyUp().weigh(0, 1));
    }

    static void p30_aRefusedOneIsNotKeptForLater() {
        ApologyUp up = Makings.chain(1, 0);
        up.weigh(1, 50);
        up.officer(0, 0);
        due("at first 1", up.apart(true), 1);
    }

    static void p31_withNobody() {
        due("set", new ApologyUp().apart(false), 0);
        due("weight", new ApologyUp().apart(true), 0);
    }

    static void p31_atFirst1Each() {
        due("set of one", Makings.chain(1, 0).apart(false), 1);
        due("weight of one", Makings.chain(1, 0).apart(true), 1);
        due("set of a star", Makings.star(9).apart(false), 1022);
        due("weight of a star", Makings.star(9).apart(true), 9);
    }

    static void p31_ofLikeOnesTheLowestSet() {
        due("of two", Makings.chain(2, 0).apart(false), 1);
        due("of four", Makings.chain(4, 0).apart(false), 5);
        due("of ten", Makings.chain(10, 0).apart(false), 1 + 4 + 16 + 64 + 256);
    }

    static void p31_whatWeighsNothingIsntInTheLowestSet() {
        ApologyUp up = Makings.star(2);
        up.weigh(1, 0);
        due("just 2, or 0", up.apart(false), 1);
        up.weigh(2, 0);
        due("0 alone", up.apart(false), 1);
        up.weigh(0, 0);
        due("nobody", up.apart(false), 0);
        due("weight", up.apart(true), 0);
        up.weigh(2, 1);
        due("2 alone", up.apart(false), 4);
    }

    static void p31_theMostWeight() {
        ApologyUp up = Makings.star(9);
        for (int i = 0; i < 10; i++) {
            up.weigh(i, 99);
        }
        due("weight", up.apart(true), 891);
        due("set", up.apart(false), 1022);
    }

    static void p31_cousinsMayBeInIt() {
        ApologyUp up = Makings.star(2);
        up.cousin(1, 2);
        due("set", up.apart(false), 6);
    }

    static void p31_aBosssBossMayBeInIt() {
        due("0 and 2", Makings.chain(3, 0).apart(false), 5);
    }

    // ---- 32 to 36: the tree ----

    static void p32_none() {
        due("nobody", new ApologyUp().middle(), NONE);
        due("one", Makings.chain(1, 0).middle(), 0);
    }

    static void p32_ofLikeOnesTheLowest() {
        due("of two", Makings.chain(2, 0).middle(), 0);
        due("of ten", Makings.chain(10, 0).middle(), 4);
        due("of nine", Makings.chain(9, 0).middle(), 4);
    }

    static void p33_ofOneAndOfNone() {
        due("none", new ApologyUp().longest(false), 0);
        due("from none", new ApologyUp().longest(true), NONE);
        due("one", Makings.chain(1, 0).longest(false), 0);
        due("from one", Makings.chain(1, 0).longest(true), 0);
    }

    static void p33_theMostAndTheLowest() {
        due("of ten", Makings.chain(10, 0).longest(false), 9);
        due("from", Makings.chain(10, 0).longest(true), 0);
        due("of a star", Makings.star(9).longest(false), 2);
        due("from", Makings.star(9).longest(true), 1);
        due("of a family", Makings.family().longest(true), 3);
    }

    static void p34_others() {
        ApologyUp up = Makings.chain(2, 0);
        due("2", up.parts(2), NONE);
        due("NONE", up.parts(NONE), NONE);
        due("the most", up.parts(MAX), NONE);
        due("the least", up.parts(MIN), NONE);
        due("nobody", new ApologyUp().parts(0), NONE);
    }

    static void p34_withoutOthers0() {
        due("one", Makings.chain(1, 0).parts(0), 0);
    }

    static void p34_aboveAndBelow() {
        ApologyUp up = Makings.chain(10, 0);
        due("the first", up.parts(0), 9);
        due("the last", up.parts(9), 9);
        due("more below", up.parts(4), 5);
        due("more above", up.parts(5), 5);
        due("the first of a star", Makings.star(9).parts(0), 1);
    }

    static void p35_ofNoneAndOfOne() {
        due("none", new ApologyUp().deputies(), 0);
        due("one", Makings.chain(1, 0).deputies(), 1);
    }

    static void p35_ofLikeOnesTheLowestSet() {
        due("of two", Makings.chain(2, 0).deputies(), 1);
        due("of three", Makings.chain(3, 0).deputies(), 2);
        due("of four", Makings.chain(4, 0).deputies(), 5);
        due("of ten", Makings.chain(10, 0).deputies(), 1 + 4 + 32 + 256);
        due("of a star", Makings.star(9).deputies(), 1);
        due("of a family", Makings.family().deputies(), 6);
    }

    static void p35_askedAgainAndBehindOthers() {
        ApologyUp up = Makings.family();
        for (int i = 0; i < 3; i++) {
            due("apart", up.apart(false), 57);
            due("deputies", up.deputies(), 6);
            due("deputies again", up.deputies(), 6);
            due("parts", up.parts(0), 3);
            due("orders", up.orders(), 20);
            due("parts", up.parts(5), 5);
        }
    }

    static void p36_rankIs0To9() {
        ApologyUp up = Makings.chain(10, 0);
        due("-1", up.ranked(-1, false), NONE);
        due("-1, sizes", up.ranked(-1, true), NONE);
        due("10", up.ranked(10, false), NONE);
        due("10, sizes", up.ranked(10, true), NONE);
        due("the most", up.ranked(MAX, false), NONE);
        due("the least", up.ranked(MIN, false), NONE);
        due("0", up.ranked(0, false), 1);
        due("9", up.ranked(9, false), 1);
    }

    static void p36_aRankThatNobodyHas() {
        due("nobody", new ApologyUp().ranked(0, false), 0);
        due("nobody's", new ApologyUp().ranked(9, true), 0);
        due("of a star", Makings.star(9).ranked(2, false), 0);
        due("of a star", Makings.star(9).ranked(1, false), 9);
    }

    static void p36_sizesOfWhatIsntDoneWith() {
        ApologyUp up = Makings.star(2);
        up.wrong(1, 0, 9);
        up.wrong(2, 0, 9);
        due("both", up.ranked(1, true), 18);
        up.away(2, 9);
        up.day(1);
        due("one", up.ranked(1, true), 9);
        due("the one that comes down", up.ranked(0, true), 10);
        up.day(1);
        due("done with", up.ranked(0, true), 0);
        due("done with", up.ranked(1, true), 9);
    }

    static void p36_theMostSizes() {
        ApologyUp up = Makings.chain(2, 0);
        for (int i = 0; i < 10; i++) {
            up.wrong(1, 0, 9999);
        }
        due("sizes", up.ranked(1, true), 99990);
        due("sorry", up.sorry(1), 99990);
    }

    // ---- 37, 38: the play ----

    static void p37_oneIs0Or1() {
        ApologyUp up = new ApologyUp();
        no("-1", up.owes(-1, 0, 0));
        no("2", up.owes(2, 0, 0));
        no("the most", up.owes(MAX, 0, 0));
        no("the least", up.owes(MIN, 0, 0));
        yes("0", up.owes(0, 0, 0));
        yes("1", up.owes(1, 0, 0));
    }

    static void p37_turnsAre0To4() {
        ApologyUp up = new ApologyUp();
        no("-1", up.owes(1, -1, 0));
        no("5", up.owes(0, 5, 0));
        no("the most", up.owes(0, MAX, 0));
        no("the least", up.owes(0, MIN, 0));
        yes("0", up.owes(0, 0, 0));
        yes("4", up.owes(0, 4, 0));
    }

    static void p37_theCostIs0To99() {
        ApologyUp up = new ApologyUp();
        no("-1", up.owes(0, 0, -1));
        no("100", up.owes(0, 0, 100));
        no("the most", up.owes(0, 0, MAX));
        no("the least", up.owes(0, 0, MIN));
        due("nothing was told", up.play(0, true), 0);
        yes("0", up.owes(0, 0, 0));
        yes("99", up.owes(0, 0, 99));
        due("it was told", up.play(0, true), 1);
    }

    static void p38_othersAreMinus2() {
        ApologyUp up = new ApologyUp();
        due("-1", up.play(-1, true), -2);
        due("2", up.play(2, false), -2);
        due("the most", up.play(MAX, true), -2);
        due("the least", up.play(MIN, true), -2);
    }

    static void p38_atFirstBowingIsFreeAndBowsIfAlike() {
        ApologyUp up = new ApologyUp();
        due("0 begins", up.play(0, true), 0);
        due("0 begins", up.play(0, false), 0);
        due("1 begins", up.play(1, true), 1);
        due("1 begins", up.play(1, false), 1);
    }

    /** Bowing costs both that at each turn. */
    private static ApologyUp allOwe(int cost) {
        ApologyUp up = new ApologyUp();
        for (int k = 0; k < 5; k++) {
            up.owes(0, k, cost);
            up.owes(1, k, cost);
        }
        return up;
    }

    static void p38_whoWouldPay99Bows() {
        due("the one who began", allOwe(50).play(0, true), 0);
        due("the other one", allOwe(50).play(0, false), 1);
        due("the one who began", allOwe(50).play(1, true), 1);
        due("the other one", allOwe(50).play(1, false), 0);
    }

    static void p38_at99ItIsAlikeSoItBows() {
        due("the one who began", allOwe(99).play(0, true), 0);
        due("the other one", allOwe(99).play(0, false), 1);
    }

    static void p38_theNinthTurnIsOfTheOneWhoBegan() {
        // Its fifth turn is free for 0, so that it bows then, and 1 needn't.
        ApologyUp up = allOwe(50);
        up.owes(0, 4, 0);
        due("0 bows in its fifth turn", up.play(0, false), 0);
        due("if 1 began there is no fifth turn of 0", up.play(1, false), 0);
        due("1 would pay 99", up.play(1, true), 1);
        ApologyUp one = allOwe(50);
        one.owes(1, 4, 0);
        due("1 has no fifth turn, if 0 began", one.play(0, false), 1);
        due("1 has a fifth turn", one.play(1, false), 1);
    }

    static void p38_who1CostsMoreThanNothing() {
        ApologyUp up = allOwe(50);
        up.owes(0, 4, 1);
        due("0 doesn't bow at last, for 1 would pay", up.play(0, false), 1);
        ApologyUp one = allOwe(50);
        for (int k = 0; k < 5; k++) {
            one.owes(1, k, 1);
        }
        due("1 doesn't bow, for 0 will", one.play(0, true), 0);
        due("nor if it is the other one who began", one.play(1, false), 0);
    }

    static void p38_aDearerTurnIsWaitedFor() {
        // 0 can wait: 1 will have to bow, as waiting costs it 99.
        ApologyUp up = allOwe(50);
        up.owes(0, 0, 1);
        due("even 1 is more than nothing", up.play(0, false), 1);
        up.owes(0, 0, 0);
        due("0 is alike", up.play(0, false), 0);
    }

    // ---- 39, 40: whose law ----

    static void p39_others() {
        ApologyUp up = Makings.chain(2, 0);
        due("officer 2", up.added(2, 1), -2);
        due("officer -2", up.added(-2, 1), -2);
        due("officer the most", up.added(MAX, 1), -2);
        due("officer the least", up.added(MIN, 1), -2);
        due("nobody", new ApologyUp().added(0, 1), -2);
        due("by -1", up.added(0, -1), -2);
        due("by 1000", up.added(0, 1000), -2);
        due("by the most", up.added(0, MAX), -2);
        due("by the least", up.added(0, MIN), -2);
        due("none came", up.about(5), 0);
        due("by 0", up.added(0, 0), 1);
        due("by 999", up.added(1, 999), 2);
    }

    static void p39_thereAreEightAtMost() {
        ApologyUp up = Makings.chain(1, 0);
        for (int i = 1; i <= 8; i++) {
            due("the next", up.added(0, 1), i);
        }
        due("a ninth", up.added(0, 1), -2);
        due("how many", up.about(5), 8);
    }

    static void p39_noneAnyMore() {
        ApologyUp up = Makings.chain(1, 0);
        due("none of none", up.added(NONE, 1), 0);
        for (int i = 1; i <= 8; i++) {
            up.added(0, 1);
        }
        due("none of eight", up.added(NONE, 0), 0);
        due("about", up.about(5), 0);
        due("one again", up.added(0, 1), 1);
    }

    static void p39_theSameOneTwice() {
        ApologyUp up = Makings.chain(1, 0);
        Checks.read(up, "adds 1;");
        due("1", up.added(0, 1), 1);
        due("1 again", up.added(0, 1), 2);
        due("all are so", up.whose(), 1);
        due("2", up.added(0, 2), 3);
        due("it can't be both", up.whose(), 0);
    }

    static void p40_withoutTexts() {
        ApologyUp up = Makings.chain(1, 0);
        due("nothing told", up.whose(), 0);
        up.added(0, 1);
        due("pride and 1, but no text", up.whose(), 0);
    }

    static void p40_withNothingAddedAllTexts() {
        ApologyUp up = new ApologyUp();
        for (int i = 1; i <= 4; i++) {
            Checks.read(up, "adds " + i + ";");
            due("texts", up.whose(), (1 << i) - 1);
        }
    }

    static void p40_theLastAddedCountsToo() {
        ApologyUp up = Makings.chain(2, 0);
        Checks.read(up, "adds who+3;");
        Checks.read(up, "adds 3;");
        for (int i = 0; i < 7; i++) {
            up.added(0, 3);
        }
        due("both", up.whose(), 3);
        up.added(1, 4);
        due("by the eighth", up.whose(), 1);
    }

    static void p40_theLeastAndTheMost() {
        ApologyUp up = Makings.chain(1, 0);
        Checks.read(up, "adds 0-5;");
        Checks.read(up, "adds 9999;");
        up.added(0, 0);
        due("0 at least", up.whose(), 1);
        up.added(NONE, 0);
        up.added(0, 999);
        due("999 at most", up.whose(), 2);
    }

    static void p40_whichRulesDoesntMatter() {
        ApologyUp up = Makings.ruled(Makings.chain(1, 0), "adds 5;");
        Checks.read(up, "adds 6;");
        up.added(0, 6);
        due("the other one", up.whose(), 2);
    }

    static void p40_aTextWithoutAddsIsPrideAnd1() {
        ApologyUp up = Makings.chain(1, 4);
        Checks.read(up, "");
        up.added(0, 5);
        due("pride and 1", up.whose(), 1);
        up.added(0, 4);
        due("no more", up.whose(), 0);
    }

    // ---- 41 to 44: sums ----

    static void p41_none() {
        ApologyUp up = Makings.chain(2, 0);
        due("nobody", new ApologyUp().stuck(), NONE);
        due("nothing", up.stuck(), NONE);
        up.wrong(1, 0, 5);
        due("one", up.stuck(), 1);
        up.day(1);
        due("one that comes down", up.stuck(), 0);
        up.day(1);
        due("all are done with", up.stuck(), NONE);
    }

    static void p41_ofLikeOnesTheLowest() {
        ApologyUp up = Makings.star(9);
        up.wrong(9, 0, 5);
        due("9", up.stuck(), 9);
        up.wrong(8, 0, 5);
        due("of two the lower", up.stuck(), 8);
        up.wrong(9, 0, 5);
        due("of most", up.stuck(), 9);
    }

    static void p42_none() {
        ApologyUp up = Makings.chain(2, 0);
        due("nobody", new ApologyUp().eldest(), NONE);
        due("nothing", up.eldest(), NONE);
        up.wrong(1, 0, 5);
        due("one", up.eldest(), 0);
        up.day(2);
        due("all are done with", up.eldest(), NONE);
    }

    static void p42_ofLikeOnesTheLowest() {
        ApologyUp up = Makings.star(3);
        up.wrong(1, 0, 5);
        up.wrong(2, 0, 5);
        up.away(2, 9);
        up.wrong(3, 0, 5);
        up.away(3, 9);
        due("0", up.eldest(), 0);
        up.day(2);
        due("0 is done with", up.eldest(), 1);
        up.wrong(1, 0, 5);
        due("a younger one", up.eldest(), 1);
    }

    static void p43_others() {
        ApologyUp up = Makings.chain(2, 0);
        due("2", up.sorry(2), -2);
        due("-2", up.sorry(-2), -2);
        due("the most", up.sorry(MAX), -2);
        due("the least", up.sorry(MIN), -2);
        due("nobody", new ApologyUp().sorry(0), -2);
    }

    static void p43_fromAll() {
        ApologyUp up = Makings.star(2);
        due("nobody", new ApologyUp().sorry(NONE), 0);
        due("nothing", up.sorry(NONE), 0);
        up.wrong(1, 0, 5);
        up.wrong(2, 0, 6);
        due("all", up.sorry(NONE), 11);
        due("of 2", up.sorry(2), 6);
        due("of 0", up.sorry(0), 0);
    }

    static void p43_notWhatIsDoneWith() {
        ApologyUp up = Makings.star(1);
        up.wrong(1, 0, 5);
        up.day(1);
        due("what comes down", up.sorry(1), 6);
        up.day(1);
        due("of 1", up.sorry(1), 0);
        due("all", up.sorry(NONE), 0);
        due("its size is 3 yet", up.ofApology(0, 3), 3);
    }

    static void p44_others() {
        ApologyUp up = new ApologyUp();
        due("4", up.befell(4), -2);
        due("-1", up.befell(-1), -2);
        due("the most", up.befell(MAX), -2);
        due("the least", up.befell(MIN), -2);
        for (int what = 0; what <= 3; what++) {
            due("an empty book, " + what, up.befell(what), 0);
        }
    }

    static void p44_ofTheLatest30() {
        ApologyUp up = Makings.ruled(Makings.chain(2, 0), "pardons if days>1 then 0 else 10 end;");
        up.wrong(1, 0, 5);
        up.day(2);
        due("pardoned", up.befell(0), 1);
        due("done with", up.befell(2), 1);
        up.away(1, 2);
        up.wrong(1, 0, 5);
        up.wrong(1, 0, 5);
        up.day(29);
        // Three are written down by then, and the refused ones of 27 days.
        due("merged", up.befell(3), 1);
        due("refused", up.befell(1), 27);
        due("pardoned", up.befell(0), 1);
        up.day(1);
        due("pardoned is out of the book", up.befell(0), 0);
        due("done with isn't", up.befell(2), 1);
        due("refused", up.befell(1), 28);
        up.day(2);
        due("done with is", up.befell(2), 0);
        due("merged is", up.befell(3), 0);
        due("refused", up.befell(1), 30);
    }
}
