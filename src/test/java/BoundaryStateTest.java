/** Boundary cases of promises 16 to 21 and 45 to 47: how all is, what comes, and the image. */
public final class BoundaryStateTest {
    private static final int NONE = ApologyUp.NONE;
    private static final int MIN = Integer.MIN_VALUE;
    private static final int MAX = Integer.MAX_VALUE;

    public static void main(String[] args) throws IllegalAccessException {
        Cases.run(BoundaryStateTest.class);
    }

    private static void due(String call, long got, long want) {
        Checks.due(call, got, want);
    }

    // ---- 16: of ----

    static void p16_ofOthersIsMinus2() {
        ApologyUp up = Makings.chain(2, 0);
        for (int what = 0; what <= 7; what++) {
            due("officer 2, " + what, up.of(2, what), -2);
            due("officer NONE, " + what, up.of(NONE, what), -2);
            due("officer the most, " + what, up.of(MAX, what), -2);
            due("officer the least, " + what, up.of(MIN, what), -2);
            due("with nobody there, " + what, new ApologyUp().of(0, what), -2);
        }
    }

    static void p16_otherWhatsAreMinus2() {
        ApologyUp up = Makings.chain(2, 0);
        due("8", up.of(0, 8), -2);
        due("-1", up.of(0, -1), -2);
        due("the most", up.of(0, MAX), -2);
        due("the least", up.of(0, MIN), -2);
    }

    static void p16_theFirstOneHasNoBossAndRank0() {
        ApologyUp up = Makings.chain(10, 0);
        due("boss", up.of(0, 0), NONE);
        due("rank", up.of(0, 2), 0);
        due("boss of the last", up.of(9, 0), 8);
        due("rank of the last", up.of(9, 2), 9);
    }

    static void p16_awayIsAtFirstNot() {
        due("away", Makings.chain(1, 0).of(0, 3), 0);
    }

    static void p16_awayIsAsToldLast() {
        ApologyUp up = Makings.chain(1, 0);
        up.away(0, 2);
        up.day(5);
        due("it is past", up.of(0, 3), 2);
        up.away(0, 1);
        due("told anew", up.of(0, 3), 6);
        up.away(0, 0);
        due("0: not", up.of(0, 3), 0);
    }

    static void p16_addsWithDaysAndDesk0WhateverThereIs() {
        ApologyUp up = Makings.ruled(Makings.chain(2, 0), "adds desk*100+days*10+size;");
        up.wrong(1, 0, 9);
        up.away(1, 9);
        up.day(3);
        due("adds", up.of(1, 4), 10);
        // One comes to a desk of one behind a day.
        ApologyUp moved = Makings.ruled(Makings.chain(3, 0), "adds desk*100+days*10+size;");
        moved.wrong(1, 0, 9);
        moved.wrong(2, 0, 9);
        moved.away(1, 9);
        moved.away(2, 1);
        moved.day(2);
        due("the latest had desk and days", moved.ofApology(0, 3), 9 + 110 + 9 + 4);
        due("adds", moved.of(1, 4), 10);
    }

    static void p16_addsWhoAndFromBeingItToTheFirst() {
        ApologyUp up = Makings.ruled(Makings.chain(10, 7), "adds who*100+from*10+to+day;");
        due("of the last", up.of(9, 4), 990);
        due("of the first", up.of(0, 4), 0);
        up.day(4);
        due("day as now", up.of(0, 4), 4);
    }

    static void p16_onTheDeskIsntWhatIsDoneWith() {
        ApologyUp up = Makings.chain(2, 0);
        due("none", up.of(1, 5), 0);
        up.wrong(1, 0, 9);
        due("one", up.of(1, 5), 1);
        up.day(1);
        due("one that comes down", up.of(0, 5), 1);
        due("no more", up.of(1, 5), 0);
        up.day(1);
        due("done with", up.of(1, 5), 0);
    }

    static void p16_tenOnADesk() {
        ApologyUp up = Makings.chain(2, 0);
        for (int i = 0; i < 10; i++) {
            up.wrong(1, 0, 9);
        }
        due("ten", up.of(1, 5), 10);
    }

    static void p16_cousinsOfOne() {
        ApologyUp up = Makings.chain(10, 0);
        due("none", up.of(5, 6), 0);
        for (int i = 0; i < 10; i++) {
            up.cousin(5, i);
        }
        due("all others", up.of(5, 6), 1023 - 32);
    }

    static void p16_belowItIsItselfToo() {
        ApologyUp up = Makings.family();
        due("itself alone", up.of(5, 7), 32);
        due("of 1", up.of(1, 7), 26);
        due("of 2", up.of(2, 7), 36);
        due("of the first: all", up.of(0, 7), 63);
        due("all ten", Makings.chain(10, 0).of(0, 7), 1023);
        due("the last of ten", Makings.chain(10, 0).of(9, 7), 512);
    }

    // ---- 17: ofApology ----

    static void p17_ofOthersIsMinus2() {
        ApologyUp up = Makings.chain(2, 0);
        due("of none", up.ofApology(0, 0), -2);
        up.wrong(1, 0, 5);
        for (int what = 0; what <= 6; what++) {
            due("apology 1, " + what, up.ofApology(1, what), -2);
            due("apology NONE, " + what, up.ofApology(NONE, what), -2);
            due("apology the most, " + what, up.ofApology(MAX, what), -2);
            due("apology the least, " + what, up.ofApology(MIN, what), -2);
        }
    }

    static void p17_otherWhatsAreMinus2() {
        ApologyUp up = Makings.chain(2, 0);
        up.wrong(1, 0, 5);
        due("7", up.ofApology(0, 7), -2);
        due("-1", up.ofApology(0, -1), -2);
        due("the most", up.ofApology(0, MAX), -2);
        due("the least", up.ofApology(0, MIN), -2);
    }

    static void p17_waitsIsAsItWasLast() {
        ApologyUp up = Makings.family();
        up.cousin(3, 4);
        up.wrong(3, 0, 5);
        due("at first not", up.ofApology(0, 6), 0);
        up.sideways(0, 4);
        due("till", up.ofApology(0, 6), 2);
        up.day(9);
        due("as it was last", up.ofApology(0, 6), 2);
    }

    static void p17_onTheLastDayItWaitsBeyond9999() {
        ApologyUp up = Makings.on(Makings.family(), 9999);
        up.cousin(3, 4);
        up.wrong(3, 0, 5);
        up.sideways(0, 4);
        due("till", up.ofApology(0, 6), 10001);
    }

    static void p17_theTenth() {
        ApologyUp up = Makings.chain(3, 0);
        for (int i = 0; i < 10; i++) {
            up.wrong(2, i % 2, 9990 + i);
        }
        due("from", up.ofApology(9, 0), 2);
        due("to", up.ofApology(9, 1), 1);
        due("at", up.ofApology(9, 2), 2);
        due("size", up.ofApology(9, 3), 9999);
        due("how", up.ofApology(9, 4), 0);
    }

    // ---- 18: is ----

    static void p18_others() {
        ApologyUp up = new ApologyUp();
        due("3", up.is(3), -2);
        due("-1", up.is(-1), -2);
        due("the most", up.is(MAX), -2);
        due("the least", up.is(MIN), -2);
    }

    static void p18_theDayIsAtMost9999() {
        ApologyUp up = Makings.on(new ApologyUp(), 9999);
        up.day(1);
        up.years(1836, 40);
        due("day", up.is(0), 9999);
    }

    static void p18_xStaysBelow30539() {
        ApologyUp up = new ApologyUp();
        up.years(0, 1);
        due("181 * 421 and 307 less twice 30539", up.is(1), 15430);
        for (int seed = 1; seed < 400; seed++) {
            up.years(seed, 1);
            due("x of " + seed, up.is(1), ((seed * 2 + 181) * 421 + 307) % 30539);
        }
    }

    // ---- 19: book ----

    static void p19_anEmptyBook() {
        ApologyUp up = new ApologyUp();
        due("how many", up.book(NONE, 0), 0);
        due("the first", up.book(0, 0), -2);
    }

    /** So many are refused, one a day. */
    private static ApologyUp refused(int many) {
        ApologyUp up = Makings.ruled(Makings.chain(2, 0), "pardons 0;adds 0;");
        up.wrong(1, 0, 1);
        return Makings.on(up, many);
    }

    static void p19_theLatest30() {
        due("29", refused(29).book(NONE, 0), 29);
        due("30", refused(30).book(NONE, 0), 30);
        due("30 of 31", refused(31).book(NONE, 0), 30);
        due("30 of 90", refused(90).book(NONE, 0), 30);
    }

    static void p19_fromTheEldestOn() {
        due("of 30", refused(30).book(0, 0), 0);
        due("of 31", refused(31).book(0, 0), 1);
        due("of 31, its size", refused(31).book(0, 3), 4);
        due("of 31, the next", refused(31).book(1, 0), 2);
        due("of 31, the latest", refused(31).book(29, 0), 30);
        due("of 90, the eldest", refused(90).book(0, 0), 60);
        due("of 90, the latest", refused(90).book(29, 0), 89);
    }

    static void p19_noneSuchIsMinus2() {
        ApologyUp up = refused(3);
        due("the third", up.book(2, 0), 2);
        due("the fourth", up.book(3, 0), -2);
        due("of -2", up.book(-2, 0), -2);
        due("of the most", up.book(MAX, 0), -2);
        due("of the least", up.book(MIN, 0), -2);
        due("the 31st of 30", refused(40).book(30, 0), -2);
    }

    static void p19_otherWhatsAreMinus2() {
        ApologyUp up = refused(3);
        due("4", up.book(0, 4), -2);
        due("-1", up.book(0, -1), -2);
        due("the most", up.book(0, MAX), -2);
        due("the least", up.book(0, MIN), -2);
        due("of the latest", up.book(2, 4), -2);
    }

    static void p19_eachWhat() {
        ApologyUp up = Makings.ruled(Makings.star(2), "adds 0;pardons who+10-from*9;wears 3;");
        // From 1 the odds are 1 and the draw is 1, from 2 they are 0: both are refused.
        up.wrong(1, 0, 5);
        up.wrong(2, 0, 6);
        up.day(1);
        due("refused", up.book(0, 2), 1);
        due("its size then", up.book(0, 3), 10);
        due("refused", up.book(1, 2), 1);
        due("its apology", up.book(1, 1), 1);
        up.by(NONE);
        up.day(1);
        due("pardoned", up.book(2, 2), 0);
        due("its size then", up.book(2, 3), 11);
        up.by(0);
        up.day(1);
        due("done with", up.book(4, 2), 2);
        due("its size then", up.book(4, 3), 3);
        due("its day", up.book(4, 0), 2);
        up.wrong(2, 0, 7);
        up.wrong(2, 0, 7);
        up.away(2, 9);
        up.day(1);
        due("merged", up.book(6, 2), 3);
        due("its size then", up.book(6, 3), 0);
        due("its apology", up.book(6, 1), 3);
        due("its day", up.book(6, 0), 3);
    }

    // ---- 20: foretold ----

    static void p20_daysAre1To60() {
        ApologyUp up = Makings.chain(3, 0);
        up.wrong(2, 0, 8);
        due("0", up.foretold(0, 0, 0), NONE);
        due("-1", up.foretold(-1, 0, 0), NONE);
        due("61", up.foretold(61, 0, 0), NONE);
        due("the most", up.foretold(MAX, 0, 0), NONE);
        due("the least", up.foretold(MIN, 0, 0), NONE);
        due("1", up.foretold(1, 0, 0), 1);
        due("60", up.foretold(60, 0, 2), 2);
    }

    static void p20_the60thDayIsForetold() {
        ApologyUp up = Makings.ruled(Makings.chain(2, 0), "adds 1;pardons if days=59 then 10 else 0 end;");
        up.wrong(1, 0, 1);
        due("behind 59", up.foretold(59, 0, 2), 0);
        due("behind 60", up.foretold(60, 0, 2), 1);
    }

    static void p20_apologiesThatArentThere() {
        ApologyUp up = Makings.chain(3, 0);
        due("of none", up.foretold(1, 0, 0), NONE);
        up.wrong(2, 0, 8);
        due("1", up.foretold(1, 1, 0), NONE);
        due("NONE", up.foretold(1, NONE, 0), NONE);
        due("the most", up.foretold(1, MAX, 0), NONE);
        due("the least", up.foretold(1, MIN, 0), NONE);
    }

    static void p20_otherWhats() {
        ApologyUp up = Makings.chain(3, 0);
        up.wrong(2, 0, 8);
        due("3", up.foretold(1, 0, 3), NONE);
        due("-1", up.foretold(1, 0, -1), NONE);
        due("the most", up.foretold(1, 0, MAX), NONE);
        due("the least", up.foretold(1, 0, MIN), NONE);
        due("at", up.foretold(1, 0, 0), 1);
        due("size", up.foretold(1, 0, 1), 9);
        due("how", up.foretold(1, 0, 2), 0);
    }

    static void p20_thoseDaysThatCanPass() {
        ApologyUp up = Makings.on(Makings.chain(4, 0), 9997);
        up.wrong(3, 0, 8);
        due("one", up.foretold(1, 0, 0), 2);
        due("two", up.foretold(2, 0, 0), 1);
        due("of three two", up.foretold(3, 0, 0), 1);
        due("of sixty two", up.foretold(60, 0, 1), 10);
        up.day(2);
        due("on the last day none", up.foretold(60, 0, 0), 1);
    }

    static void p20_ofWhatIsDoneWithAsItIs() {
        ApologyUp up = Makings.chain(2, 0);
        up.wrong(1, 0, 9);
        up.day(2);
        due("at", up.foretold(60, 0, 0), 1);
        due("size", up.foretold(60, 0, 1), 5);
        due("how", up.foretold(60, 0, 2), 2);
    }

    static void p20_ofOneThatWillBeMerged() {
        ApologyUp up = Makings.chain(3, 0);
        up.wrong(2, 0, 9);
        up.wrong(2, 0, 9);
        due("size of the later one", up.foretold(1, 1, 1), 0);
        due("how", up.foretold(1, 1, 2), 2);
        due("at", up.foretold(60, 1, 0), 1);
        due("size of the lower one", up.foretold(1, 0, 1), 15);
    }

    static void p20_itChangesNothing() {
        ApologyUp up = Makings.chain(2, 0);
        up.wrong(1, 0, 9);
        up.foretold(60, 0, 0);
        up.pardoned(0);
        due("day", up.is(0), 0);
        due("x", up.is(1), 181);
        due("how", up.ofApology(0, 4), 0);
        due("size", up.ofApology(0, 3), 9);
        due("book", up.book(NONE, 0), 0);
        due("steps", up.about(3), 1);
    }

    // ---- 21: pardoned ----

    static void p21_othersAreNone() {
        ApologyUp up = Makings.chain(2, 0);
        due("of none", up.pardoned(0), NONE);
        up.wrong(1, 0, 9);
        due("1", up.pardoned(1), NONE);
        due("NONE", up.pardoned(NONE), NONE);
        due("the most", up.pardoned(MAX), NONE);
        due("the least", up.pardoned(MIN), NONE);
        due("0", up.pardoned(0), 1);
    }

    static void p21_in60DaysAtMost() {
        ApologyUp just = Makings.ruled(Makings.chain(2, 0), "pardons if days=59 then 10 else 0 end;");
        just.wrong(1, 0, 9);
        due("the 60th", just.pardoned(0), 60);
        ApologyUp late = Makings.ruled(Makings.chain(2, 0), "pardons if days=60 then 10 else 0 end;");
        late.wrong(1, 0, 9);
        due("the 61st", late.pardoned(0), NONE);
        late.day(1);
        due("a day later", late.pardoned(0), 60);
    }

    static void p21_noneIfItWas() {
        ApologyUp up = Makings.chain(3, 0);
        up.wrong(2, 0, 9);
        due("two days", up.pardoned(0), 2);
        up.day(2);
        due("it comes down", up.pardoned(0), NONE);
        up.day(2);
        due("it is done with", up.pardoned(0), NONE);
    }

    static void p21_noneIfItIsMergedAhead() {
        ApologyUp up = Makings.chain(3, 0);
        up.wrong(2, 0, 9);
        up.wrong(2, 0, 9);
        due("the lower one", up.pardoned(0), 2);
        due("the later one", up.pardoned(1), NONE);
    }

    static void p21_noneIfItNeverIs() {
        ApologyUp up = Makings.ruled(Makings.chain(2, 0), "pardons 0;");
        up.wrong(1, 0, 9);
        due("never", up.pardoned(0), NONE);
    }

    static void p21_noneIfTheDaysEndAhead() {
        ApologyUp up = Makings.on(Makings.chain(3, 0), 9998);
        up.wrong(2, 0, 9);
        due("one day of two", up.pardoned(0), NONE);
        up.wrong(1, 0, 9);
        due("one day of one", up.pardoned(1), 1);
        up.day(1);
        due("no day", up.pardoned(0), NONE);
    }

    static void p21_firstBehindARefusal() {
        // The draws are 1, 0: with odds of 1 the first is refused.
        ApologyUp up = Makings.ruled(Makings.chain(2, 0), "pardons 1;");
        up.wrong(1, 0, 9);
        due("the second day", up.pardoned(0), 2);
    }

    // ---- 45, 46: image and back ----

    static void p45_theAnswerIsTheDay() {
        ApologyUp up = new ApologyUp();
        due("at first", up.image(), 0);
        Makings.on(up, 9999);
        due("on the last day", up.image(), 9999);
    }

    static void p45_itIsAsAllIsNow() {
        ApologyUp up = Makings.chain(2, 0);
        up.image();
        up.officer(1, 0);
        up.image();
        up.officer(2, 0);
        up.back();
        due("the latest image", up.about(0), 3);
    }

    static void p45_itIsNoStep() {
        ApologyUp up = new ApologyUp();
        up.image();
        up.back();
        due("steps", up.about(3), 0);
    }

    static void p46_withoutAnImageToldItIsTheNewObject() {
        ApologyUp up = Makings.on(Makings.chain(2, 0), 5);
        due("day", up.back(), 0);
        due("officers", up.about(0), 0);
    }

    static void p46_theAnswerIsTheDayOfTheImage() {
        ApologyUp up = Makings.on(new ApologyUp(), 7);
        up.image();
        up.day(3);
        due("back", up.back(), 7);
        due("day", up.is(0), 7);
    }

    static void p46_itStays() {
        ApologyUp up = Makings.on(Makings.chain(3, 0), 7);
        up.wrong(2, 0, 5);
        up.image();
        up.back();
        up.day(9);
        up.undo();
        up.officer(0, 0);
        up.cousin(0, 1);
        up.pile(3);
        due("again", up.back(), 7);
        due("officers", up.about(0), 3);
        due("cousins", up.of(0, 6), 0);
        due("pile", up.about(4), 0);
        due("at", up.ofApology(0, 2), 2);
        due("steps", up.about(3), 8);
    }

    static void p46_theStepsOfTheImageCanBeTakenBack() {
        ApologyUp up = Makings.on(new ApologyUp(), 35);
        up.image();
        up.day(40);
        up.back();
        due("steps", up.about(3), 30);
        for (int i = 0; i < 30; i++) {
            due("yet", up.undo(), 29 - i);
            due("day", up.is(0), 34 - i);
        }
        due("none", up.undo(), NONE);
    }

    static void p46_theTapeStays() {
        ApologyUp up = new ApologyUp();
        Checks.tape(up, "adds 1");
        up.image();
        Checks.tape(up, "adds 12");
        up.back();
        due("tape", up.about(6), 7);
    }

    static void p46_theLatestFaultStays() {
        ApologyUp up = new ApologyUp();
        Checks.read(up, "adds 10000;");
        up.image();
        Checks.read(up, "adds");
        up.back();
        due("fault", up.fault(0), 1);
        due("place", up.fault(1), 4);
        ApologyUp first = new ApologyUp();
        Checks.read(first, "!");
        first.back();
        due("behind the new object's image", first.fault(0), 1);
    }

    static void p46_textsAndTheTextAreSoAgain() {
        ApologyUp up = Makings.ruled(Makings.chain(1, 0), "adds 5;");
        up.image();
        Makings.ruled(up, "adds 6;");
        due("adds", up.of(0, 4), 6);
        up.back();
        due("texts", up.about(1), 1);
        due("the text", up.about(2), 0);
        due("adds", up.of(0, 4), 5);
        due("a new one has the number again", Checks.read(up, "adds 7;"), 1);
        up.by(1);
        due("adds", up.of(0, 4), 7);
    }

    static void p46_pileAddedWeightsAndTurnsAreSoAgain() {
        ApologyUp up = Makings.chain(1, 0);
        Checks.read(up, "adds 5;");
        up.pile(4);
        up.added(0, 5);
        up.weigh(0, 7);
        up.owes(1, 4, 3);
        up.owes(0, 0, 9);
        up.image();
        up.pile(NONE);
        up.pile(5);
        up.pile(6);
        up.added(NONE, 0);
        up.added(0, 6);
        up.weigh(0, 8);
        up.owes(0, 0, 0);
        up.back();
        due("pile", up.about(4), 1);
        due("its size", up.piles(4, 1), 1);
        due("added", up.about(5), 1);
        due("whose", up.whose(), 1);
        due("weight", up.apart(true), 7);
        due("turns", up.play(0, true), 1);
    }

    static void p46_addedOfAnotherOfficerAreSoAgain() {
        ApologyUp up = Makings.chain(2, 0);
        Checks.read(up, "adds who+5;");
        up.added(1, 6);
        up.image();
        up.added(NONE, 0);
        up.added(0, 6);
        due("whose", up.whose(), 0);
        up.back();
        due("whose", up.whose(), 1);
    }

    static void p46_anApologyThatWasTakenBackAndToldAnewIsSoAgain() {
        ApologyUp up = Makings.on(Makings.family(), 3);
        up.wrong(3, 1, 5);
        up.image();
        up.undo();
        up.day(2);
        up.wrong(5, 0, 6);
        up.day(1);
        up.back();
        int[] want = {3, 1, 3, 5, 0, 3, 0};
        for (int what = 0; what <= 6; what++) {
            due("" + what, up.ofApology(0, what), want[what]);
        }
    }

    static void p46_theBookIsSoAgain() {
        ApologyUp up = refused(31);
        up.image();
        up.day(5);
        up.back();
        due("how many", up.book(NONE, 0), 30);
        due("the eldest", up.book(0, 0), 1);
        due("the latest", up.book(29, 0), 30);
    }

    static void p46_anOfficerToldBehindItIsANewOne() {
        ApologyUp up = Makings.chain(1, 0);
        up.image();
        up.officer(0, 9);
        up.weigh(1, 50);
        up.cousin(0, 1);
        up.away(1, 9);
        up.back();
        up.officer(0, 2);
        due("pride", up.of(1, 1), 2);
        due("cousins", up.of(1, 6), 0);
        due("away", up.of(1, 3), 0);
        due("weight", up.apart(true), 1);
    }

    // ---- 47: about ----

    static void p47_others() {
        ApologyUp up = new ApologyUp();
        due("7", up.about(7), -2);
        due("-1", up.about(-1), -2);
        due("the most", up.about(MAX), -2);
        due("the least", up.about(MIN), -2);
    }

    static void p47_atFirst() {
        ApologyUp up = new ApologyUp();
        for (int what = 0; what <= 6; what++) {
            due("" + what, up.about(what), what == 2 ? NONE : 0);
        }
    }

    static void p47_full() {
        ApologyUp up = Makings.chain(10, 0);
        for (int i = 0; i < 4; i++) {
            Checks.read(up, "");
        }
        up.by(3);
        up.day(31);
        for (int i = 0; i < 8; i++) {
            up.pile(1);
            up.added(9, 1);
        }
        Checks.tape(up, Makings.times(" ", 300));
        int[] want = {10, 4, 3, 30, 8, 8, 300};
        for (int what = 0; what <= 6; what++) {
            due("" + what, up.about(what), want[what]);
        }
        up.officer(0, 0);
        up.text();
        up.by(4);
        up.pile(1);
        up.added(9, 1);
        up.feed(0, 0, 0, 0, 0);
        for (int what = 0; what <= 6; what++) {
            due("nothing more, " + what, up.about(what), want[what]);
        }
    }
}
