/** Boundary cases of promises 4 to 8: the tape, texts, their faults, and what laws come to. */
public final class BoundaryTextTest {
    private static final int NONE = ApologyUp.NONE;
    private static final int MIN = Integer.MIN_VALUE;
    private static final int MAX = Integer.MAX_VALUE;
    private static final int BLANKS = 0x20202020;

    public static void main(String[] args) throws IllegalAccessException {
        Cases.run(BoundaryTextTest.class);
    }

    private static void due(String call, long got, long want) {
        Checks.due(call, got, want);
    }

    private static void yes(String call, boolean got) {
        Checks.due(call, got, true);
    }

    private static void no(String call, boolean got) {
        Checks.due(call, got, false);
    }

    private static String times(String part, int n) {
        return Makings.times(part, n);
    }

    private static void fault(String text, int kind, int place) {
        ApologyUp up = new ApologyUp();
        due("text " + text, Checks.read(up, text), kind == 0 ? 0 : NONE);
        due("fault of " + text, up.fault(0), kind);
        due("place of " + text, up.fault(1), place);
    }

    private static void fine(String text) {
        fault(text, 0, NONE);
    }

    /** What a law adds for officer 2, of pride 6 and rank 2, of a chain of five. */
    private static void adds(String sum, int want) {
        ApologyUp up = new ApologyUp();
        for (int i = 0; i < 5; i++) {
            up.officer(i - 1, i * 3 % 10);
        }
        Makings.ruled(up, "adds " + sum + ";");
        due(sum, up.of(2, 4), want);
    }

    // ---- 4: feed ----

    static void p04_theHighestByteOfAComesFirst() {
        ApologyUp up = new ApologyUp();
        // adds 1;pardons 2;wea
        due("20", up.feed(0x61646473, 0x20313b70, 0x6172646f, 0x6e732032, 0x3b776561), 20);
        due("17", up.end(17), 17);
        due("it is read", up.text(), 0);
    }

    static void p04_bytesAbove127AreBytes() {
        ApologyUp up = new ApologyUp();
        up.feed(0x64617920, 0x313bff80, BLANKS, BLANKS, BLANKS);
        due("text", up.text(), NONE);
        due("place", up.fault(1), 6);
        ApologyUp all = new ApologyUp();
        due("20 of 255", all.feed(-1, -1, -1, -1, -1), 20);
        due("text", all.text(), NONE);
        due("place", all.fault(1), 0);
    }

    static void p04_just300Fit() {
        ApologyUp up = new ApologyUp();
        for (int i = 1; i <= 15; i++) {
            due("feed", up.feed(BLANKS, BLANKS, BLANKS, BLANKS, BLANKS), 20 * i);
        }
        due("tape", up.about(6), 300);
    }

    static void p04_ofMoreThan300NoneCome() {
        ApologyUp up = new ApologyUp();
        for (int i = 1; i <= 15; i++) {
            up.feed(BLANKS, BLANKS, BLANKS, BLANKS, BLANKS);
        }
        due("320", up.feed(0, 0, 0, 0, 0), NONE);
        due("tape", up.about(6), 300);
        due("281", up.end(281), 281);
        due("301", up.feed(0, 0, 0, 0, 0), NONE);
        due("tape", up.about(6), 281);
        due("all are blanks", up.text(), 0);
    }

    static void p04_from280On300AreReached() {
        ApologyUp up = new ApologyUp();
        for (int i = 1; i <= 15; i++) {
            up.feed(BLANKS, BLANKS, BLANKS, BLANKS, BLANKS);
        }
        up.end(280);
        due("300", up.feed(BLANKS, BLANKS, BLANKS, BLANKS, 0x20202021), 300);
        due("text", up.text(), NONE);
        due("the last byte", up.fault(1), 299);
    }

    static void p04_theyComeBehindWhatIsThere() {
        ApologyUp up = new ApologyUp();
        up.feed(0x61646473, 0, 0, 0, 0);
        up.end(4);
        due("24", up.feed(0x20313b20, BLANKS, BLANKS, BLANKS, BLANKS), 24);
        due("it is read", up.text(), 0);
    }

    // ---- 5: end ----

    static void p05_asManyAsThereAre() {
        ApologyUp up = new ApologyUp();
        due("0 of none", up.end(0), 0);
        due("1 of none", up.end(1), NONE);
        up.feed(BLANKS, BLANKS, BLANKS, BLANKS, BLANKS);
        due("21 of 20", up.end(21), NONE);
        due("the most", up.end(MAX), NONE);
        due("nothing is done", up.about(6), 20);
        due("20 of 20", up.end(20), 20);
        due("19 of 20", up.end(19), 19);
        due("20 of 19", up.end(20), NONE);
        due("tape", up.about(6), 19);
    }

    static void p05_notBelow0() {
        ApologyUp up = new ApologyUp();
        up.feed(BLANKS, BLANKS, BLANKS, BLANKS, BLANKS);
        due("-1", up.end(-1), NONE);
        due("the least", up.end(MIN), NONE);
        due("nothing is done", up.about(6), 20);
        due("0", up.end(0), 0);
        due("tape", up.about(6), 0);
    }

    static void p05_whatStoodBehindDoesntCount() {
        ApologyUp up = new ApologyUp();
        Checks.tape(up, "day 1;days");
        up.end(9);
        due("text", up.text(), NONE);
        due("a clause that ends early, not another word", up.fault(1), 9);
        Checks.tape(up, "day 10;");
        up.end(5);
        due("text", up.text(), NONE);
        due("place", up.fault(1), 5);
        Checks.tape(up, "day 600");
        up.end(6);
        up.feed(0x3b202020, BLANKS, BLANKS, BLANKS, BLANKS);
        due("60 days", up.text(), 0);
    }

    static void p05_theFirstBytesAlone() {
        ApologyUp up = new ApologyUp();
        Checks.tape(up, "adds 1;adds 2;");
        due("7", up.end(7), 7);
        due("just the first clause", up.text(), 0);
    }

    // ---- 6: text ----

    static void p06_thereAreFourAtMost() {
        ApologyUp up = new ApologyUp();
        for (int i = 0; i < 4; i++) {
            due("the next", Checks.read(up, "adds 1;"), i);
        }
        Checks.tape(up, "adds 1;");
        due("a fifth", up.text(), NONE);
        due("texts", up.about(1), 4);
        due("the tape stays", up.about(6), 7);
    }

    static void p06_theTapeThatStaysCanBeReadLater() {
        ApologyUp up = new ApologyUp();
        for (int i = 0; i < 4; i++) {
            Checks.read(up, "");
        }
        Checks.tape(up, "adds 7;");
        up.text();
        up.back();
        up.officer(NONE, 0);
        due("it is the first one then", up.text(), 0);
        up.by(0);
        due("adds", up.of(0, 4), 7);
    }

    static void p06_theTapeIsEmptyThen() {
        ApologyUp up = new ApologyUp();
        Checks.read(up, "adds 1;");
        due("tape", up.about(6), 0);
        due("20", up.feed(BLANKS, BLANKS, BLANKS, BLANKS, BLANKS), 20);
    }

    static void p06_withAFaultTheTapeIsEmptyTooAndNoTextIsThere() {
        ApologyUp up = new ApologyUp();
        due("text", Checks.read(up, "adds 1"), NONE);
        due("tape", up.about(6), 0);
        due("texts", up.about(1), 0);
        no("by", up.by(0));
        due("the next is the first", Checks.read(up, "adds 1;"), 0);
    }

    static void p06_anEmptyTapeIsAText() {
        ApologyUp up = new ApologyUp();
        due("empty", up.text(), 0);
        due("blanks alone", Checks.read(up, " \n \n"), 1);
        due("texts", up.about(1), 2);
    }

    static void p06_of300Bytes() {
        fine("adds " + times("1+", 146) + "10;");
        fault("adds " + times("1+", 147) + "1", 1, 300);
        fine(times(" ", 293) + "adds 1;");
        fault(times(" ", 299) + "1", 1, 299);
        fine("adds " + times("0", 293) + "9;");
        fault("adds " + times("9", 294) + ";", 2, 5);
    }

    static void p06_manyFaultyTextsTakeNoRoom() {
        ApologyUp up = Makings.chain(1, 0);
        for (int i = 0; i < 3; i++) {
            due("text", Checks.read(up, "adds " + times("1+", 147)), NONE);
        }
        Makings.ruled(up, "adds " + times("1+", 146) + "10;");
        due("adds", up.of(0, 4), 156);
    }

    static void p06_aTokenThatEndsWithByte300() {
        for (String last : new String[] {"<", ">", "=", "9", "z", "Z", ";", "(", "-"}) {
            fault(times(" ", 299) + last, 1, 299);
        }
        fault(times(" ", 296) + "adds", 1, 300);
        fault(times(" ", 290) + "adds if 1<", 1, 300);
        fault(times(" ", 289) + "adds if 1<=", 1, 300);
        fault(times(" ", 294) + "day 12", 1, 300);
    }

    static void p06_of300Tokens() {
        fault(times(";", 300), 1, 0);
        fault(times("(", 300), 1, 0);
        fault(times("1 ", 150), 1, 0);
        fault("adds" + times("(", 296), 3, 12);
        fault("adds 1" + times("+", 294), 1, 7);
        fault("adds " + times("-", 295), 3, 13);
    }

    static void p06_aFaultyTextLeavesTheOthersAsTheyAre() {
        ApologyUp up = Makings.ruled(Makings.chain(1, 0), "adds 7;");
        Checks.read(up, "adds 8;!");
        due("the text", up.about(2), 0);
        due("adds", up.of(0, 4), 7);
    }

    // ---- 7: fault; what is asked ----

    static void p07_noneAheadOfAny() {
        ApologyUp up = new ApologyUp();
        due("fault", up.fault(0), NONE);
        due("place", up.fault(1), NONE);
        due("others", up.fault(2), NONE);
        Checks.tape(up, "!");
        due("not read yet", up.fault(0), NONE);
    }

    static void p07_withoutAFault() {
        ApologyUp up = new ApologyUp();
        up.text();
        due("fault", up.fault(0), 0);
        due("place", up.fault(1), NONE);
    }

    static void p07_othersAreNone() {
        ApologyUp up = new ApologyUp();
        Checks.read(up, "!");
        due("0", up.fault(0), 1);
        due("1", up.fault(1), 0);
        due("2", up.fault(2), NONE);
        due("-1", up.fault(-1), NONE);
        due("the most", up.fault(MAX), NONE);
        due("the least", up.fault(MIN), NONE);
    }

    static void p07_ofTheLatestThatWasRead() {
        ApologyUp up = new ApologyUp();
        Checks.read(up, "adds 10000;");
        due("fault", up.fault(0), 2);
        Checks.read(up, "adds 1;");
        due("fault", up.fault(0), 0);
        due("place", up.fault(1), NONE);
        Checks.read(up, "day");
        due("place", up.fault(1), 3);
    }

    static void p07_aFifthIsntRead() {
        ApologyUp up = new ApologyUp();
        for (int i = 0; i < 4; i++) {
            Checks.read(up, "");
        }
        Checks.tape(up, "!");
        up.text();
        due("fault", up.fault(0), 0);
    }

    // ---- 7: tokens ----

    static void p07_blanksAre32And10Alone() {
        fine(" \nadds\n1 ;\n");
        fault("adds\t1;", 1, 4);
        fault("adds\r1;", 1, 4);
        fault("adds\u00001;", 1, 4);
        fault("adds\u000b1;", 1, 4);
        fault("adds\u001f1;", 1, 4);
        fault("adds\u00a01;", 1, 4);
        fault("\t", 1, 0);
    }

    static void p07_blanksPartTokens() {
        fault("ad ds 1;", 1, 0);
        fault("adds 1 1;", 1, 7);
        fault("adds if 1< =1 then 1 else 1 end;", 1, 11);
        fine("adds1;");
        fine("adds if 1<1then 1else 1end;");
    }

    static void p07_lettersOneBehindTheOtherAreOneToken() {
        fault("addsadds 1;", 1, 0);
        fault("adds whowho;", 1, 5);
        fault("adds notwho;", 1, 5);
        for (String letter : new String[] {"a", "z", "A", "Z"}) {
            fault("adds" + letter + " 1;", 1, 0);
            fault(letter + "adds 1;", 1, 0);
            fault("adds 1;adds" + letter, 1, 7);
        }
    }

    static void p07_bigLettersAreOthers() {
        fault("ADDS 1;", 1, 0);
        fault("adds Who;", 1, 5);
        fault("adds if 1=1 Then 1 else 1 end;", 1, 12);
    }

    static void p07_theLongestSign() {
        fine("adds if 1<=1 then 1 else 1 end;");
        fine("adds if 1>=1 then 1 else 1 end;");
        fault("adds if 1=<1 then 1 else 1 end;", 1, 10);
        fault("adds if 1=>1 then 1 else 1 end;", 1, 10);
        fault("adds if 1<>1 then 1 else 1 end;", 1, 10);
        fault("adds if 1<==1 then 1 else 1 end;", 1, 11);
        fine("adds if 1<-1 then 1 else 1 end;");
    }

    static void p07_signsBesideThoseToldAreNone() {
        for (char c = 33; c < 256; c++) {
            boolean letter = c >= 'a' && c <= 'z' || c >= 'A' && c <= 'Z';
            boolean digit = c >= '0' && c <= '9';
            if (!letter && !digit && "<>=#+-*/();".indexOf(c) < 0) {
                fault("adds 1" + c + ";", 1, 6);
            }
        }
    }

    static void p07_theEndIsAtTheLength() {
        fault("adds 1", 1, 6);
        fault("adds 1 ", 1, 7);
        fault("adds 1\n\n\n", 1, 9);
        fault("day 1;day", 1, 9);
        fault("adds if 1", 1, 9);
    }

    static void p07_theFirstAsTokensAreComeTo() {
        fault("adds 10000 desk wears;", 2, 5);
        fault("wears 1 + desk + 10000;", 5, 10);
        fault("wears desk !", 5, 6);
        fault("adds 1 ! 10000;", 1, 7);
        fault("day 61;adds 1;adds 1;", 2, 4);
    }

    // ---- 7: fault 1, it can't stand there, or is none ----

    static void p07_fault1WhereAClauseBegins() {
        fault("1;", 1, 0);
        fault(";", 1, 0);
        fault("day 1;;", 1, 6);
        fault("size;", 1, 0);
        fault("under 1;", 1, 0);
        fault("(adds 1;)", 1, 0);
        fault("mark 1;", 1, 0);
    }

    static void p07_fault1OfAClauseThatIsntWhole() {
        fault("adds 1 day 1;", 1, 7);
        fault("officer 1 under;", 1, 15);
        fault("officer 1 below 1;", 1, 10);
        fault("cousin 1 1;", 1, 9);
        fault("wrong 1 to 0;", 1, 12);
        fault("wrong 1 to 0 size who;", 1, 18);
        fault("away 1 day 1;", 1, 7);
        fault("send 1 at 1;", 1, 7);
        fault("day -1;", 1, 4);
        fault("day 1 2;", 1, 6);
        fault("day (1);", 1, 4);
    }

    static void p07_fault1InASum() {
        fault("adds;", 1, 4);
        fault("adds +1;", 1, 5);
        fault("adds 1+;", 1, 7);
        fault("adds 1+*1;", 1, 7);
        fault("adds ();", 1, 6);
        fault("adds (1;", 1, 7);
        fault("adds 1);", 1, 6);
        fault("adds not 1;", 1, 5);
        fault("adds 1<1;", 1, 6);
        fault("adds halves 1;", 1, 13);
        fault("adds halves 1 1;", 1, 14);
        fault("adds ranks;", 1, 10);
        fault("adds -;", 1, 6);
    }

    static void p07_fault1InAChoice() {
        fault("adds if 1 then 1 else 1 end;", 1, 10);
        fault("adds if not 1 then 1 else 1 end;", 1, 14);
        fault("adds if (1=1) then 1 else 1 end;", 1, 10);
        fault("adds if 1=1=1 then 1 else 1 end;", 1, 11);
        fault("adds if 1=1 1 else 1 end;", 1, 12);
        fault("adds if 1=1 then 1 end;", 1, 19);
        fault("adds if 1=1 then 1 else 1;", 1, 25);
        fault("adds if 1=1 and then 1 else 1 end;", 1, 16);
        fault("adds if or 1=1 then 1 else 1 end;", 1, 8);
        fault("adds if 1=not 1 then 1 else 1 end;", 1, 10);
    }

    // ---- 7: fault 2, a number that isn't one of those told ----

    static void p07_fault2NumbersAreAtMost9999() {
        fine("adds 9999;");
        fine("adds 0;");
        fault("adds 10000;", 2, 5);
        fault("pardons 1+10000;", 2, 10);
        fault("wears (10000);", 2, 7);
        fault("adds 4294967296;", 2, 5);
        fault("adds 18446744073709551616;", 2, 5);
    }

    static void p07_fault2NoughtsAheadDontCount() {
        fine("adds 00000000000009999;");
        fault("adds 00000000000010000;", 2, 5);
        fine("day 0000000000000060;");
    }

    static void p07_fault2PrideIs0To9() {
        fine("officer 0 under 1;");
        fine("officer 9 under 1;");
        fault("officer 10 under 1;", 2, 8);
    }

    static void p07_fault2OfficersAre0To9() {
        fine("officer 1 under 0;cousin 0 to 0;wrong 0 to 0 size 1;away 0 days 1;send 1 to 0;");
        fine("officer 1 under 9;cousin 9 to 9;wrong 9 to 9 size 1;away 9 days 1;send 1 to 9;");
        fault("officer 1 under 10;", 2, 16);
        fault("cousin 10 to 1;", 2, 7);
        fault("cousin 1 to 10;", 2, 12);
        fault("wrong 10 to 1 size 1;", 2, 6);
        fault("wrong 1 to 10 size 1;", 2, 11);
        fault("away 10 days 1;", 2, 5);
        fault("send 1 to 10;", 2, 10);
    }

    static void p07_fault2ApologiesAre0To9() {
        fine("send 0 to 1;send 9 to 1;");
        fault("send 10 to 1;", 2, 5);
    }

    static void p07_fault2SizeIs1To9999() {
        fine("wrong 1 to 0 size 1;wrong 1 to 0 size 9999;");
        fault("wrong 1 to 0 size 0;", 2, 18);
        fault("wrong 1 to 0 size 10000;", 2, 18);
    }

    static void p07_fault2DaysOfAwayAre0To99() {
        fine("away 1 days 0;away 1 days 99;");
        fault("away 1 days 100;", 2, 12);
    }

    static void p07_fault2DaysAre1To60() {
        fine("day 1;day 60;");
        fault("day 0;", 2, 4);
        fault("day 61;", 2, 4);
    }

    // ---- 7: fault 3, the 9th that is open around one another ----

    static void p07_fault3OfBrackets() {
        fine("adds " + times("(", 8) + "1" + times(")", 8) + ";");
        fault("adds " + times("(", 9) + "1" + times(")", 9) + ";", 3, 13);
    }

    static void p07_fault3OfMinus() {
        fine("adds " + times("-", 8) + "1;");
        fault("adds " + times("-", 9) + "1;", 3, 13);
        fine("adds 1-" + times("-", 8) + "1;");
        fault("adds 1-" + times("-", 9) + "1;", 3, 15);
    }

    static void p07_fault3OfRanks() {
        fine("adds " + times("ranks ", 8) + "1;");
        fault("adds " + times("ranks ", 9) + "1;", 3, 53);
    }

    static void p07_fault3OfHalvesInItsFirst() {
        fine("adds " + times("halves ", 8) + "1" + times(" by 1", 8) + ";");
        fault("adds " + times("halves ", 9) + "1" + times(" by 1", 9) + ";", 3, 61);
    }

    static void p07_fault3OfHalvesTillItsSecondIsWhole() {
        fine("adds " + times("halves 1 by ", 8) + "1;");
        fault("adds " + times("halves 1 by ", 9) + "1;", 3, 101);
        fine("adds " + times("(", 7) + "halves 1 by 1" + times(")", 7) + ";");
        fault("adds " + times("(", 7) + "halves 1 by (1)" + times(")", 7) + ";", 3, 24);
        fine("adds " + times("(", 7) + "halves 1 by 1+(1)" + times(")", 7) + ";");
    }

    static void p07_fault3OfNot() {
        fine("adds if " + times("not ", 7) + "1=1 then 1 else 1 end;");
        fault("adds if " + times("not ", 8) + "1=1 then 1 else 1 end;", 3, 36);
        fault("adds if " + times("not ", 7) + "(1)=1 then 1 else 1 end;", 3, 36);
        fault("adds if " + times("not ", 7) + "1=(1) then 1 else 1 end;", 3, 38);
    }

    static void p07_fault3OfNotNoMoreThanItsAsk() {
        fine("adds if " + times("not ", 7) + "1=1 and " + times("not ", 7) + "1=1 then 1 else 1 end;");
        fine("adds if " + times("not ", 7) + "1=1 or (1)=1 then " + times("(", 7) + "1" + times(")", 7) + " else 1 end;");
    }

    static void p07_fault3OfIf() {
        fine("adds " + times("if 1=1 then ", 8) + "1" + times(" else 1 end", 8) + ";");
        fault("adds " + times("if 1=1 then ", 9) + "1" + times(" else 1 end", 9) + ";", 3, 101);
        fine("adds " + times("if 1=1 then 1 else ", 8) + "1" + times(" end", 8) + ";");
        fault("adds " + times("if 1=1 then 1 else ", 9) + "1" + times(" end", 9) + ";", 3, 157);
        fine("adds " + times("if ", 8) + "1=1" + times(" then 1 else 1 end=1", 7) + " then 1 else 1 end;");
        fault("adds " + times("if ", 9) + "1=1 then", 3, 29);
    }

    static void p07_fault3OfAllKindsTogether() {
        fine("adds (-ranks halves if not (-1)=1 then 1 else 1 end by 1);");
        fault("adds (-ranks halves if not (-(1))=1 then 1 else 1 end by 1);", 3, 29);
    }

    static void p07_fault3WhatIsClosedIsOpenNoMore() {
        fine("adds " + times("(1)+", 12) + times("(", 8) + "1" + times(")", 8) + ";");
        fine("adds " + times("-", 8) + "1+" + times("-", 8) + "1;");
        fine("adds " + times("-", 8) + "1*" + times("-", 8) + "1;");
        fine("adds if 1=1 then 1 else 1 end+" + times("(", 8) + "1" + times(")", 8) + ";");
        fine("adds " + times("-", 8) + "1;pardons " + times("-", 8) + "1;");
    }

    static void p07_fault3MinusBetweenTwoDoesntCount() {
        fine("adds 1" + times("-1", 20) + ";");
        fine("adds " + times("(1-", 8) + "1-1" + times(")", 8) + ";");
    }

    // ---- 7: faults 4, 5, 6, and the least ----

    static void p07_fault4ALawForTheSecondTime() {
        fault("adds 1;adds 1;", 4, 7);
        fault("pardons 1;pardons 1;", 4, 10);
        fault("wears 1;wears 1;", 4, 8);
        fault("adds 1;pardons 1;wears 1; adds", 4, 26);
        fine("adds 1;pardons 1;wears 1;");
        fine("wears 1;pardons 1;adds 1;");
    }

    static void p07_fault5DaysInWears() {
        fine("adds days;pardons days;");
        fault("wears days;", 5, 6);
        fault("wears (1+days);", 5, 9);
    }

    static void p07_fault5DeskOutsideAdds() {
        fine("adds desk;");
        fault("pardons desk;", 5, 8);
        fault("wears desk;", 5, 6);
        fault("adds desk;pardons desk;", 5, 18);
    }

    static void p07_theOtherNamesAreOfAllLaws() {
        fine("adds day+size+who+pride+rank+from+to;pardons day+size+who+pride+rank+from+to;");
        fine("wears day+size+who+pride+rank+from+to;");
    }

    static void p07_fault6The25thClause() {
        fine(times("day 1;", 24));
        fault(times("day 1;", 25), 6, 144);
        fault(times("day 1;", 24) + "\n day", 6, 146);
        fault("adds 1;pardons 1;" + times("day 1;", 22) + "wears 1;", 6, 149);
        fine("adds 1;pardons 1;wears 1;" + times("day 1;", 21));
    }

    static void p07_ofOneTheLeast() {
        fault(times("day 1;", 24) + "mark", 1, 144);
        fault("adds 1;" + times("day 1;", 23) + "adds 1;", 4, 145);
        fault("day day;", 1, 4);
        fault("adds 1 10000;", 1, 7);
        fault("wears 1 desk;", 1, 8);
        fault("adds " + times("(", 8) + "1(", 1, 14);
        fault("adds " + times("(", 8) + "not", 1, 13);
    }

    // ---- 8: by ----

    static void p08_noneCanRule() {
        ApologyUp up = new ApologyUp();
        due("at first", up.about(2), NONE);
        yes("NONE without texts", up.by(NONE));
        due("the text", up.about(2), NONE);
    }

    static void p08_noneAgain() {
        ApologyUp up = Makings.ruled(Makings.chain(1, 4), "adds 9;");
        due("adds", up.of(0, 4), 9);
        yes("NONE", up.by(NONE));
        due("the text", up.about(2), NONE);
        due("adds", up.of(0, 4), 5);
    }

    static void p08_falseForOthers() {
        ApologyUp up = new ApologyUp();
        no("0 without texts", up.by(0));
        Checks.read(up, "");
        yes("0", up.by(0));
        no("1 of 1", up.by(1));
        no("-2", up.by(-2));
        no("the most", up.by(MAX));
        no("the least", up.by(MIN));
        due("the text stays", up.about(2), 0);
    }

    static void p08_theLastOfFour() {
        ApologyUp up = new ApologyUp();
        for (int i = 0; i < 4; i++) {
            Checks.read(up, "");
        }
        yes("3", up.by(3));
        no("4", up.by(4));
        due("the text", up.about(2), 3);
    }

    // ---- 8: what the text that rules comes to (asked by promise 16) ----

    static void p08_addsIs0To999() {
        adds("0", 0);
        adds("0-1", 0);
        adds("9999*-9999", 0);
        adds("999", 999);
        adds("1000", 999);
        adds("9999*9999", 999);
    }

    static void p08_withoutAddsItIsPrideAnd1() {
        ApologyUp up = Makings.ruled(Makings.chain(2, 9), "pardons 1;wears 1;");
        due("by a text without", up.of(1, 4), 10);
        up.by(NONE);
        due("by none", up.of(1, 4), 10);
    }

    static void p08_fromTheLeft() {
        adds("20-5-4", 11);
        adds("100/7*7", 98);
        adds("100*7/7", 100);
        adds("100/7/2", 7);
        adds("20-5+4", 19);
        adds("2+3*4", 14);
        adds("20-2*3", 14);
    }

    static void p08_divisionCutsTowards0() {
        adds("7/2", 3);
        adds("10+-7/2", 7);
        adds("10+7/-2", 7);
        adds("10+-7/-2", 13);
        adds("10+-1/2", 10);
    }

    static void p08_divisionBy0Is0() {
        adds("5/0+3", 3);
        adds("0/0+3", 3);
        adds("-5/0+3", 3);
        adds("9/(1-1)*9+1", 1);
    }

    static void p08_aboveAMillionIsAMillionAtEachStep() {
        adds("9999*101/2000", 500);
        adds("1000*1000/2000", 500);
        adds("(1000*1000+1-1000*999)/100", 10);
        adds("1000*1000+9999-1000*999-500", 500);
        adds("9999*9999*9999*9999/2000", 500);
        adds("1000*1000*2/-1000+1900", 900);
    }

    static void p08_belowTheSameLess() {
        adds("9999*-101/2000+700", 200);
        adds("1000*-1000-1+1000*999+1500", 500);
        adds("1000*-1000-9999+1000*999+1500", 500);
        adds("9999*-9999*9999/2000+700", 200);
        adds("-(9999*9999)/2000+700", 200);
    }

    static void p08_halvesAsManyTimes() {
        adds("halves 100 by 1", 50);
        adds("halves 100 by 3", 12);
        adds("halves 1 by 1", 0);
        adds("halves 999 by 9", 1);
        adds("halves 999 by 10", 0);
        adds("halves (1000*1000) by 19", 1);
        adds("halves (1000*1000) by 20", 0);
        adds("halves (1000*1000) by 32", 0);
        adds("halves 5 by 9999", 0);
        adds("halves 5 by (9999*9999)", 0);
    }

    static void p08_halves0OrLessTimesNotAtAll() {
        adds("halves 100 by 0", 100);
        adds("halves 100 by -1", 100);
        adds("halves 100 by (9999*-9999)", 100);
    }

    static void p08_halvesCutsTowards0() {
        adds("10+halves -7 by 1", 7);
        adds("10+halves -7 by 2", 9);
        adds("10+halves -7 by 3", 10);
        adds("10+halves -1 by 1", 10);
    }

    static void p08_halvesTakesOnesNotProducts() {
        adds("halves 100 by 1*2", 100);
        adds("halves 100 by 1+2", 52);
        adds("3*halves 100 by 1", 150);
    }

    static void p08_ranksOfNoneSuchIs0() {
        adds("ranks 0", 0);
        adds("ranks 4", 4);
        adds("ranks 5", 0);
        adds("ranks 9999", 0);
        adds("ranks -1+7", 7);
        adds("ranks (9999*9999)+7", 7);
        adds("ranks 3*10", 30);
    }

    static void p08_minusIsOfOneOne() {
        adds("-2*-3", 6);
        adds("-2+5", 3);
        adds("-(2-5)", 3);
        adds("--5", 5);
        adds("5--5", 10);
    }

    static void p08_comparisonsOfLikeOnes() {
        adds("if 5<5 then 1 else 2 end", 2);
        adds("if 5<=5 then 1 else 2 end", 1);
        adds("if 5>5 then 1 else 2 end", 2);
        adds("if 5>=5 then 1 else 2 end", 1);
        adds("if 5=5 then 1 else 2 end", 1);
        adds("if 5#5 then 1 else 2 end", 2);
    }

    static void p08_comparisonsOfUnlikeOnes() {
        adds("if 4<5 then 1 else 2 end", 1);
        adds("if 6<=5 then 1 else 2 end", 2);
        adds("if 6>5 then 1 else 2 end", 1);
        adds("if 4>=5 then 1 else 2 end", 2);
        adds("if 4=5 then 1 else 2 end", 2);
        adds("if 4#5 then 1 else 2 end", 1);
    }

    static void p08_notTurnsRound() {
        adds("if not 1=1 then 1 else 2 end", 2);
        adds("if not 1=2 then 1 else 2 end", 1);
        adds("if not not 1=1 then 1 else 2 end", 1);
        adds("if not not 1=2 then 1 else 2 end", 2);
    }

    static void p08_andOfBothSides() {
        adds("if 1=1 and 1=1 then 1 else 2 end", 1);
        adds("if 1=1 and 1=2 then 1 else 2 end", 2);
        adds("if 1=2 and 1=1 then 1 else 2 end", 2);
        adds("if 1=2 and 1=2 then 1 else 2 end", 2);
    }

    static void p08_orOfBothSides() {
        adds("if 1=1 or 1=1 then 1 else 2 end", 1);
        adds("if 1=1 or 1=2 then 1 else 2 end", 1);
        adds("if 1=2 or 1=1 then 1 else 2 end", 1);
        adds("if 1=2 or 1=2 then 1 else 2 end", 2);
    }

    static void p08_andBindsMoreThanOrAndNotMost() {
        adds("if 1=1 or 1=1 and 1=2 then 1 else 2 end", 1);
        adds("if 1=2 and 1=1 or 1=1 then 1 else 2 end", 1);
        adds("if not 1=1 and 1=2 then 1 else 2 end", 2);
        adds("if not 1=2 or 1=1 then 1 else 2 end", 1);
        adds("if not 1=1 or 1=1 then 1 else 2 end", 1);
        adds("if not not 1=1 then 1 else 2 end", 1);
        adds("if 1=2 or 1=2 or 1=1 then 1 else 2 end", 1);
        adds("if 1=1 and 1=1 and 1=2 then 1 else 2 end", 2);
    }

    static void p08_ofIfJustTheOneThatIsChosen() {
        adds("if 1=1 then 3 else 9/0 end", 3);
        adds("1+if 1=2 then 3 else if 1=1 then 4 else 5 end end*2", 9);
    }

    static void p08_names() {
        adds("who", 2);
        adds("pride", 6);
        adds("rank", 2);
        adds("from", 2);
        adds("to", 0);
        adds("size", 10);
        adds("day", 0);
        adds("days", 0);
        adds("desk", 0);
    }
}
