/** Each promise by hand: what is ordinary, the edges that the document names, wrong inputs. */
public final class PromiseTest {
    private static final int NONE = ApologyUp.NONE;
    private static final int MIN = Integer.MIN_VALUE;
    private static final int MAX = Integer.MAX_VALUE;

    private static void due(String call, long got, long want) {
        Checks.due(call, got, want);
    }

    private static void due(String call, boolean got, boolean want) {
        Checks.due(call, got, want);
    }

    /** A chain of so many officers, each of that pride. */
    private static ApologyUp chain(int many, int pride) {
        ApologyUp up = new ApologyUp();
        for (int i = 0; i < many; i++) {
            up.officer(i - 1, pride);
        }
        return up;
    }

    /** 0 above 1 and 2; 1 above 3 and 4; 2 above 5. */
    private static ApologyUp family() {
        ApologyUp up = new ApologyUp();
        up.officer(NONE, 9);
        up.officer(0, 2);
        up.officer(0, 5);
        up.officer(1, 0);
        up.officer(1, 3);
        up.officer(2, 7);
        return up;
    }

    private static ApologyUp ruled(ApologyUp up, String text) {
        int number = Checks.read(up, text);
        due("text " + text, number >= 0, true);
        due("by " + text, up.by(number), true);
        return up;
    }

    /** What a law of a lone first officer of pride 3 adds. */
    private static int adds(String sum) {
        ApologyUp up = chain(1, 3);
        ruled(up, "adds " + sum + ";");
        return up.of(0, 4);
    }

    public static void main(String[] args) {
        newObject();
        officers();
        cousins();
        tape();
        texts();
        laws();
        wrongs();
        away();
        sideways();
        days();
        merging();
        scripts();
        years();
        undo();
        book();
        future();
        routes();
        piles();
        orders();
        trees();
        games();
        whoseLaw();
        sums();
        images();
        Checks.finish("PromiseTest");
    }

    private static void newObject() {
        ApologyUp up = new ApologyUp();
        due("1 NONE", NONE, -1);
        due("1 officers", up.about(0), 0);
        due("1 texts", up.about(1), 0);
        due("1 the text", up.about(2), NONE);
        due("1 steps", up.about(3), 0);
        due("1 pile", up.about(4), 0);
        due("1 added", up.about(5), 0);
        due("1 tape", up.about(6), 0);
        due("1 day", up.is(0), 0);
        due("1 x", up.is(1), 181);
        due("1 apologies", up.is(2), 0);
        due("18 others", up.is(3), -2);
        due("18 others", up.is(-1), -2);
        due("47 others", up.about(7), -2);
        due("47 others", up.about(-1), -2);
        due("47 others", up.about(MIN), -2);
        up.officer(NONE, 1);
        up.pile(3);
        due("1 the image is a new object", up.back(), 0);
        due("1 officers", up.about(0), 0);
        due("1 pile", up.about(4), 0);
    }

    private static void officers() {
        ApologyUp up = new ApologyUp();
        due("2 the first has no boss", up.officer(0, 1), NONE);
        due("2 pride", up.officer(NONE, 10), NONE);
        due("2 pride", up.officer(NONE, -1), NONE);
        due("2 first", up.officer(NONE, 9), 0);
        due("2 a second one without a boss", up.officer(NONE, 9), NONE);
        due("2 no such boss", up.officer(1, 9), NONE);
        due("2 no such boss", up.officer(MAX, 9), NONE);
        for (int i = 1; i < 10; i++) {
            due("2 officer", up.officer(i - 1, 0), i);
        }
        due("2 an eleventh", up.officer(0, 0), NONE);
        due("16 boss", up.of(9, 0), 8);
        due("16 boss", up.of(0, 0), NONE);
        due("16 pride", up.of(0, 1), 9);
        due("16 rank", up.of(9, 2), 9);
        due("16 away", up.of(9, 3), 0);
        due("16 adds", up.of(0, 4), 10);
        due("16 desk", up.of(9, 5), 0);
        due("16 cousins", up.of(9, 6), 0);
        due("16 below", up.of(8, 7), 3 << 8);
        due("16 others", up.of(9, 8), -2);
        due("16 others", up.of(9, -1), -2);
        due("16 others", up.of(10, 0), -2);
        due("16 others", up.of(-1, 0), -2);
    }

    private static void cousins() {
        ApologyUp up = family();
        due("3", up.cousin(3, 5), true);
        due("3 they are", up.cousin(5, 3), false);
        due("3 alike", up.cousin(3, 3), false);
        due("3 none such", up.cousin(3, 6), false);
        due("3 none such", up.cousin(-1, 3), false);
        due("3 boss and his", up.cousin(3, 1), true);
        due("16 cousins", up.of(3, 6), 34);
        due("16 cousins", up.of(1, 6), 8);
    }

    private static void tape() {
        ApologyUp up = new ApologyUp();
        due("5 nothing there", up.end(1), NONE);
        due("5 below 0", up.end(-1), NONE);
        due("5", up.end(0), 0);
        for (int i = 1; i <= 15; i++) {
            due("4", up.feed(0x64617920, 0x313b2020, 0x20202020, 0x20202020, 0x20202020), 20 * i);
        }
        due("4 more than 300", up.feed(0, 0, 0, 0, 0), NONE);
        due("47 tape", up.about(6), 300);
        due("5", up.end(281), 281);
        due("4 more than 300", up.feed(0, 0, 0, 0, 0), NONE);
        due("5 more than there are", up.end(282), NONE);
        due("47 tape", up.about(6), 281);
        due("5", up.end(280), 280);
        due("4 just 300", up.feed(0x20202020, 0x20202020, 0x20202020, 0x20202020, 0x20202020), 300);
        due("6", up.text(), 0);
        due("6 the tape is empty", up.about(6), 0);
        // The highest byte of a comes first.
        up.feed(0x61646473, 0x20313233, 0x34203b20, 0xff000000, 0);
        up.end(13);
        due("4 bytes above 127", up.text(), NONE);
        due("7", up.fault(0), 1);
        due("7", up.fault(1), 12);
    }

    private static void texts() {
        ApologyUp up = new ApologyUp();
        due("7 ahead of any", up.fault(0), NONE);
        due("7 ahead of any", up.fault(1), NONE);
        due("6 an empty one", up.text(), 0);
        due("7", up.fault(0), 0);
        due("7", up.fault(1), NONE);
        due("7 others", up.fault(2), NONE);
        due("7 others", up.fault(-1), NONE);
        due("6 with a fault", Checks.read(up, "adds"), NONE);
        due("6 the tape is empty", up.about(6), 0);
        due("7", up.fault(0), 1);
        due("7 of the end at the length", up.fault(1), 4);
        due("6", Checks.read(up, "adds 1;"), 1);
        due("6", Checks.read(up, " \n "), 2);
        due("6", Checks.read(up, "adds 2;"), 3);
        due("8 others", up.by(4), false);
        due("8 others", up.by(-2), false);
        due("8", up.by(3), true);
        due("47 the text", up.about(2), 3);
        Checks.read(up, "adds");
        due("6 there are 4", up.text(), NONE);
        due("6 the tape stays", up.about(6), 4);
        due("7 it wasn't read", up.fault(0), 0);
        due("47 texts", up.about(1), 4);
        due("8 none", up.by(NONE), true);
        due("47 the text", up.about(2), NONE);
    }

    private static void laws() {
        ApologyUp up = chain(3, 3);
        due("without a text", up.of(1, 4), 4);
        ruled(up, "pardons 10;");
        due("without adds", up.of(1, 4), 4);
        ruled(up, "adds who*100+from*10+to+rank+day+days+desk+size;");
        due("names", up.of(2, 4), 232);
        due("least", adds("0-5"), 0);
        due("most", adds("1000"), 999);
        due("from the left", adds("20-5-4"), 11);
        due("from the left", adds("100/7*7"), 98);
        due("product first", adds("2+3*4"), 14);
        due("cut towards 0", adds("10+(0-7)/2"), 7);
        due("by 0", adds("5+7/0"), 5);
        due("above", adds("9999*9999/1000-500"), 500);
        due("below", adds("1500+9999*-9999/1000"), 500);
    }

    private static void wrongs() {
        ApologyUp up = family();
        due("9 not above", up.wrong(3, 2, 1), NONE);
        due("9 itself", up.wrong(3, 3, 1), NONE);
        due("9 below", up.wrong(1, 3, 1), NONE);
        due("9 size", up.wrong(3, 0, 0), NONE);
        due("9 size", up.wrong(3, 0, 10000), NONE);
        due("9 none such", up.wrong(6, 0, 1), NONE);
        due("9 none such", up.wrong(3, -1, 1), NONE);
        due("9 nothing was done", up.about(3), 0);
        due("9", up.wrong(3, 1, 9999), 0);
        for (int i = 1; i < 10; i++) {
            due("9", up.wrong(4, 0, 1), i);
        }
        due("9 an eleventh", up.wrong(4, 0, 1), NONE);
        due("17 from", up.ofApology(0, 0), 3);
        due("17 to", up.ofApology(0, 1), 1);
        due("17 at", up.ofApology(0, 2), 3);
        due("17 size", up.ofApology(0, 3), 9999);
        due("17 how", up.ofApology(0, 4), 0);
        due("17 began", up.ofApology(0, 5), 0);
        due("17 waits", up.ofApology(0, 6), 0);
        due("17 others", up.ofApology(0, 7), -2);
        due("17 others", up.ofApology(0, -1), -2);
        due("17 others", up.ofApology(10, 0), -2);
        due("17 others", up.ofApology(-1, 0), -2);
        due("18", up.is(2), 10);
    }

    private static void away() {
        ApologyUp up = chain(3, 0);
        due("10 none such", up.away(3, 1), false);
        due("10 none such", up.away(-1, 1), false);
        due("10 days", up.away(2, 100), false);
        due("10 days", up.away(2, -1), false);
        up.wrong(2, 0, 1);
        due("10", up.away(2, 2), true);
        due("12", up.day(1), 0);
        due("12 away", up.ofApology(0, 2), 2);
        up.day(1);
        due("12 away", up.ofApology(0, 2), 2);
        up.day(1);
        due("12 there again", up.ofApology(0, 2), 1);
        due("16 as told last", up.of(2, 3), 2);
        due("10 not", up.away(2, 0), true);
        due("16 not", up.of(2, 3), 0);
        due("10 most", up.away(2, 99), true);
        due("16", up.of(2, 3), 102);
        due("47", up.about(3), 7);
    }

    private static void sideways() {
        ApologyUp up = family();
        up.cousin(3, 5);
        up.cousin(3, 0);
        up.wrong(3, 0, 4);
        up.wrong(3, 1, 4);
        due("11 no cousin", up.sideways(0, 4), false);
        due("11 not below to", up.sideways(0, 0), false);
        due("11 not below to", up.sideways(1, 5), false);
        due("11 none such", up.sideways(2, 5), false);
        due("11 none such", up.sideways(0, 6), false);
        due("11 none such", up.sideways(-1, MIN), false);
        due("11", up.sideways(0, 5), true);
        due("17 at", up.ofApology(0, 2), 5);
        due("17 waits", up.ofApology(0, 6), 2);
        due("17 size", up.ofApology(0, 3), 4);
        due("11 it waits", up.sideways(0, 3), false);
        up.day(1);
        due("11 it waits", up.sideways(0, 3), false);
        up.day(1);
        due("12 it waited", up.ofApology(0, 2), 5);
        due("11 no more", up.sideways(0, 3), true);
        due("17 waits", up.ofApology(0, 6), 4);
        ApologyUp down = chain(3, 0);
        down.cousin(0, 1);
        down.cousin(1, 2);
        down.wrong(2, 0, 8);
        down.day(2);
        due("12 pardoned", down.ofApology(0, 4), 1);
        down.day(1);
        due("11 it comes down", down.sideways(0, 2), false);
    }

    private static void days() {
        ApologyUp up = chain(3, 0);
        due("12 days", up.day(0), NONE);
        due("12 days", up.day(61), NONE);
        due("12 days", up.day(-1), NONE);
        due("12 days", up.day(MIN), NONE);
        up.wrong(2, 0, 8);
        due("12", up.day(1), 0);
        due("12 adds", up.ofApology(0, 3), 9);
        due("12", up.day(1), 0);
        due("12 pardoned", up.ofApology(0, 4), 1);
        due("12 at", up.ofApology(0, 2), 0);
        due("12 adds", up.ofApology(0, 3), 10);
        due("12 drawn", up.is(1), 15430);
        due("12", up.day(1), 0);
        due("12 wears", up.ofApology(0, 3), 5);
        due("12 at", up.ofApology(0, 2), 1);
        due("12 done with", up.day(1), 1);
        due("12 wears", up.ofApology(0, 3), 2);
        due("12 how", up.ofApology(0, 4), 2);
        due("12 at", up.ofApology(0, 2), 2);
        due("12 nothing more", up.day(60), 0);
        due("18", up.is(0), 64);
        ApologyUp proud = ruled(chain(2, 9), "pardons 0; adds 999;");
        proud.wrong(1, 0, 4500);
        proud.day(1);
        due("12 refused", proud.ofApology(0, 3), 9999);
        due("12 refused", proud.ofApology(0, 2), 1);
        due("12 refused", proud.ofApology(0, 4), 0);
        due("19 what", proud.book(0, 2), 1);
        due("19 size", proud.book(0, 3), 9999);
        ApologyUp late = new ApologyUp();
        for (int i = 0; i < 166; i++) {
            late.day(60);
        }
        due("12", late.is(0), 9960);
        due("12 beyond 9999", late.day(40), NONE);
        due("12 nothing was done", late.is(0), 9960);
        due("12", late.day(39), 0);
        due("12 none can pass", late.day(1), NONE);
        due("14 none can pass", late.years(7, 40), 9999);
        due("18", late.is(0), 9999);
        ApologyUp desks = ruled(chain(3, 0), "adds desk*100+days*10+size;pardons 0;wears 0;");
        desks.wrong(1, 0, 1);
        desks.wrong(2, 0, 1);
        desks.wrong(2, 0, 1);
        desks.away(1, 9);
        desks.day(1);
        // 0 stays with 1; then 1 comes there with one on the desk: 1 + 101; then 2 with two: 1 + 201.
        // All merge: 1 and 102 are 102, that and 202 are 253.
        due("desk ahead of it", desks.ofApology(0, 3), 253);
    }

    private static void merging() {
        ApologyUp up = chain(4, 0);
        up.wrong(3, 0, 9);
        up.wrong(3, 1, 9);
        up.wrong(3, 0, 4);
        up.wrong(3, 0, 20);
        up.away(3, 5);
        due("12 merged ones, too", up.day(1), 2);
        // 9 and 4: 11; 11 and 20: 25.
        due("12 size", up.ofApology(0, 3), 25);
        due("12 another to", up.ofApology(1, 4), 0);
        due("12 merged", up.ofApology(2, 4), 2);
        due("12 merged", up.ofApology(3, 3), 0);
        due("19 the lowest first", up.book(0, 1), 2);
        due("19 the next", up.book(1, 1), 3);
        due("44", up.befell(3), 2);
        ApologyUp great = chain(3, 0);
        great.wrong(2, 0, 9999);
        great.wrong(2, 0, 9999);
        great.away(2, 5);
        great.day(1);
        due("12 at most", great.ofApology(0, 3), 9999);
    }

    private static void scripts() {
        ApologyUp up = chain(1, 0);
        due("13 others", up.played(0), -2);
        due("13 others", up.played(-1), -2);
        Checks.read(up, "adds 1;officer 3 under 0;officer 4 under 1;cousin 1 to 2;wrong 2 to 0 size 5;"
                + "away 0 days 2;send 0 to 1;day 2;");
        due("13", up.played(0), NONE);
        due("2", up.about(0), 3);
        due("16", up.of(2, 1), 4);
        due("16", up.of(2, 0), 1);
        due("17", up.ofApology(0, 6), 2);
        due("18", up.is(0), 2);
        due("15 as by hand", up.about(3), 5);
        due("13 it can't again: they are cousins", up.played(0), 3);
        due("13 what was done stays", up.about(0), 5);
        due("13 others", up.played(1), -2);
        ApologyUp empty = new ApologyUp();
        Checks.read(empty, "officer 1 under 0;");
        due("13 the first one can't be told so", empty.played(0), 0);
        ApologyUp late = new ApologyUp();
        for (int i = 0; i < 166; i++) {
            late.day(60);
        }
        Checks.read(late, "wears 1;day 38;day 2;day 1;");
        due("13 those that can pass do", late.played(0), 2);
        due("18", late.is(0), 9999);
        due("13", late.played(0), 1);
        ApologyUp just = new ApologyUp();
        for (int i = 0; i < 166; i++) {
            just.day(60);
        }
        Checks.read(just, "day 39;");
        due("13 just 9999", just.played(0), NONE);
        due("18", just.is(0), 9999);
    }

    private static void years() {
        ApologyUp up = chain(2, 0);
        due("14 others", up.years(-1, 1), NONE);
        due("14 others", up.years(10000, 1), NONE);
        due("14 others", up.years(0, 0), NONE);
        due("14 others", up.years(0, 41), NONE);
        due("14 nothing was done", up.about(3), 0);
        // x is 181, then 15430: 181 mod 5 is 1, 15430 mod 5 is 0 and of 2 officers the first has no boss.
        due("14", up.years(0, 2), 0);
        due("16 away for 181 mod 4", up.of(1, 3), 1);
        due("18 x", up.is(1), 22069);
        due("18 it couldn't be", up.is(2), 0);
        due("15 one step", up.about(3), 1);
        // 22069 mod 5 is 4: a day.
        due("14", up.years(0, 3), 1);
        due("14 most", up.years(9999, 40) > 1, true);
        due("15 one step", up.about(3), 3);
        ApologyUp nobody = new ApologyUp();
        due("14 nobody", nobody.years(0, 3), 1);
        due("15", nobody.undo(), 0);
        due("18 x", nobody.is(1), 181);
    }

    private static void undo() {
        ApologyUp up = chain(2, 0);
        due("15 none", up.undo(), NONE);
        up.wrong(1, 0, 5);
        up.day(2);
        due("12", up.ofApology(0, 4), 2);
        up.officer(1, 4);
        up.cousin(1, 2);
        due("15", up.undo(), 2);
        due("15 how", up.ofApology(0, 4), 1);
        due("15 book", up.book(NONE, 0), 1);
        due("15", up.undo(), 1);
        due("15 x", up.is(1), 181);
        due("15 book", up.book(NONE, 0), 0);
        due("15", up.undo(), 0);
        due("15 apologies", up.is(2), 0);
        due("15 officers stay", up.about(0), 3);
        due("15 cousins stay", up.of(1, 6), 4);
        due("15 none", up.undo(), NONE);
        up.day(40);
        due("15 the latest 30", up.about(3), 30);
        for (int i = 29; i >= 0; i--) {
            due("15", up.undo(), i);
        }
        due("18 day", up.is(0), 10);
        due("15 none", up.undo(), NONE);
    }

    private static void book() {
        ApologyUp up = ruled(chain(2, 0), "pardons 0;adds 0;");
        due("19 how many", up.book(NONE, 9), 0);
        due("19 none", up.book(0, 0), -2);
        up.wrong(1, 0, 1);
        up.day(29);
        due("19 how many", up.book(NONE, 0), 29);
        due("19 eldest", up.book(0, 0), 0);
        due("19 eldest", up.book(0, 3), 2);
        up.day(3);
        due("19 the latest 30", up.book(NONE, 0), 30);
        due("19 eldest", up.book(0, 0), 2);
        due("19 eldest", up.book(0, 3), 8);
        due("19 latest", up.book(29, 0), 31);
        due("19 what", up.book(29, 2), 1);
        due("19 apology", up.book(29, 1), 0);
        due("19 none", up.book(30, 0), -2);
        due("19 others", up.book(-2, 0), -2);
        due("19 others", up.book(0, 4), -2);
        due("19 others", up.book(0, -1), -2);
        due("44", up.befell(1), 30);
        due("44", up.befell(0), 0);
        due("44 others", up.befell(4), -2);
        due("44 others", up.befell(-1), -2);
    }

    private static void future() {
        ApologyUp up = chain(3, 0);
        up.wrong(2, 0, 8);
        due("20 at", up.foretold(1, 0, 0), 1);
        due("20 size", up.foretold(1, 0, 1), 9);
        due("20 how", up.foretold(2, 0, 2), 1);
        due("20 how", up.foretold(60, 0, 2), 2);
        due("20 others", up.foretold(61, 0, 2), NONE);
        due("20 others", up.foretold(0, 0, 2), NONE);
        due("20 others", up.foretold(1, 1, 2), NONE);
        due("20 others", up.foretold(1, -1, 2), NONE);
        due("20 others", up.foretold(1, 0, 3), NONE);
        due("20 others", up.foretold(1, 0, -1), NONE);
        due("21", up.pardoned(0), 2);
        due("21 others", up.pardoned(1), NONE);
        due("21 others", up.pardoned(-1), NONE);
        due("20 nothing is changed", up.is(0), 0);
        due("20 nothing is changed", up.is(1), 181);
        due("20 nothing is changed", up.about(3), 1);
        due("20 nothing is changed", up.book(NONE, 0), 0);
        up.day(1);
        due("21", up.pardoned(0), 1);
        up.day(1);
        due("21 it was", up.pardoned(0), NONE);
        ApologyUp never = ruled(chain(2, 0), "pardons 0;");
        never.wrong(1, 0, 1);
        due("21 it isn't", never.pardoned(0), NONE);
        ApologyUp far = ruled(chain(2, 0), "pardons if days = 59 then 10 else 0 end;");
        far.wrong(1, 0, 1);
        due("21 the 60th", far.pardoned(0), 60);
        ApologyUp late = chain(3, 0);
        for (int i = 0; i < 166; i++) {
            late.day(60);
        }
        late.day(38);
        late.wrong(2, 0, 8);
        due("20 those that can pass", late.foretold(5, 0, 0), 1);
        due("21 they can't", late.pardoned(0), NONE);
    }

    private static void routes() {
        ApologyUp up = family();
        due("22", up.meets(3, 5), 0);
        due("22 one of both", up.meets(1, 4), 1);
        due("22 both", up.meets(4, 4), 4);
        due("22 others", up.meets(4, 6), NONE);
        due("22 others", up.meets(-1, 4), NONE);
        due("23", up.steps(3, 5), 4);
        due("23", up.steps(0, 5), 2);
        due("23", up.steps(5, 5), 0);
        due("23 others", up.steps(5, 6), NONE);
        due("23 others", up.steps(MIN, 5), NONE);
        ApologyUp tall = chain(5, 0);
        tall.cousin(4, 2);
        due("24 days", tall.route(4, 0, -2), 4);
        // Straight: 1 each of four; by the cousin: the step to 3 adds nothing.
        due("24 size", tall.route(4, 0, -3), 12);
        due("24 officers", tall.route(4, 0, NONE), 3);
        due("24", tall.route(4, 0, 0), 2);
        due("24", tall.route(4, 0, 1), 1);
        due("24", tall.route(4, 0, 2), 0);
        due("24 none such", tall.route(4, 0, 3), -4);
        due("24 others", tall.route(4, 0, -4), -4);
        due("24 not above", tall.route(0, 4, -2), -4);
        due("24 itself", tall.route(4, 4, -2), -4);
        due("24 none such", tall.route(5, 0, -2), -4);
        due("24 none such", tall.route(4, -1, -2), -4);
        due("24 cousin isn't below to", tall.route(4, 2, -2), 2);
        due("24 cousin isn't below to", tall.route(4, 2, -3), 12);
        tall.cousin(4, 1);
        due("24 sooner", tall.route(4, 0, -2), 3);
        due("24 sooner", tall.route(4, 0, NONE), 2);
        ApologyUp free = ruled(chain(5, 0), "adds 0;");
        free.cousin(4, 2);
        due("24 of like ones the lowest next", free.route(4, 0, 0), 2);
        // What adds less at first may end greater: 10+5=15 goes by the boss, 10 by the cousin.
        ApologyUp odd = ruled(chain(5, 0), "adds if size > 10 then 0 else if who < 2 then 99 else 5 end end;");
        odd.cousin(4, 2);
        due("24 the least at the end", odd.route(4, 0, -3), 15);
        due("24 the least at the end", odd.route(4, 0, 0), 3);
    }

    private static void piles() {
        ApologyUp up = new ApologyUp();
        due("26 nothing", up.piles(0, 0), 1);
        due("26 nothing", up.piles(1, 0), 0);
        due("27 nothing", up.ask(0), NONE);
        due("25 size", up.pile(0), -2);
        due("25 size", up.pile(1000), -2);
        due("25 size", up.pile(-2), -2);
        int[] sizes = {1, 2, 3, 4, 999, 6, 7, 8};
        for (int i = 0; i < 8; i++) {
            due("25", up.pile(sizes[i]), i + 1);
        }
        due("25 a ninth", up.pile(1), -2);
        // 1 2 3, 2 4, 6.
        due("26 how many", up.piles(6, 0), 3);
        due("26 in all", up.piles(6, 1), 0);
        due("26 in none", up.piles(6, 2), 0xd0);
        due("27 as near to half; the lowest", up.ask(6), 0);
        // 3, 1 2.
        due("26 how many", up.piles(3, 0), 2);
        due("26 in all", up.piles(1002, 1), 16);
        due("26 in none", up.piles(1002, 2), 0xe8);
        due("26 without any", up.piles(9999, 2), 0);
        due("26 the empty set", up.piles(0, 0), 1);
        due("26 the empty set", up.piles(0, 2), 255);
        due("27 none", up.ask(9999), NONE);
        due("26 others", up.piles(-1, 0), NONE);
        due("26 others", up.piles(10000, 0), NONE);
        due("26 others", up.piles(3, 3), NONE);
        due("26 others", up.piles(3, -1), NONE);
        due("27 others", up.ask(-1), NONE);
        due("27 others", up.ask(10000), NONE);
        due("25 none any more", up.pile(NONE), 0);
        due("47", up.about(4), 0);
        // 4, 1 3, 1 3 with two threes: 0 is in two of three, 1 and 2 in one each, 3 in one.
        up.pile(1);
        up.pile(3);
        up.pile(3);
        up.pile(4);
        due("26 how many", up.piles(4, 0), 3);
        due("27 the lowest of like ones", up.ask(4), 0);
    }

    private static void orders() {
        due("28 without any", new ApologyUp().orders(), 1);
        due("29 without any", new ApologyUp().first(0), NONE);
        ApologyUp star = chain(1, 0);
        for (int i = 1; i < 10; i++) {
            star.officer(0, i % 3);
        }
        due("28", star.orders(), 362880);
        int[] order = {0, 2, 5, 8, 1, 4, 7, 3, 6, 9};
        for (int i = 0; i < 10; i++) {
            due("29", star.first(i), order[i]);
        }
        due("29 others", star.first(10), NONE);
        due("29 others", star.first(-1), NONE);
        due("28", chain(10, 5).orders(), 1);
    }

    private static void trees() {
        ApologyUp up = family();
        due("31", up.apart(false), 57);
        due("31", up.apart(true), 4);
        due("30 others", up.weigh(6, 1), false);
        due("30 others", up.weigh(0, 100), false);
        due("30 others", up.weigh(0, -1), false);
        for (int i = 0; i < 6; i++) {
            due("30", up.weigh(i, 0), true);
        }
        due("31 the lowest", up.apart(false), 0);
        due("31", up.apart(true), 0);
        due("30", up.weigh(1, 99), true);
        due("31", up.apart(false), 2);
        due("31", up.apart(true), 99);
        ApologyUp pair = chain(2, 0);
        due("31 of like ones the lowest", pair.apart(false), 1);
        due("32", up.middle(), 0);
        due("32 of like ones the lowest", chain(4, 0).middle(), 1);
        due("32 none", new ApologyUp().middle(), NONE);
        due("33", up.longest(false), 4);
        due("33 from", up.longest(true), 3);
        due("33 one", chain(1, 0).longest(false), 0);
        due("33 one", chain(1, 0).longest(true), 0);
        due("33 none", new ApologyUp().longest(true), NONE);
        due("34", up.parts(0), 3);
        due("34", up.parts(2), 4);
        due("34 without others", chain(1, 0).parts(0), 0);
        due("34 others", up.parts(6), NONE);
        due("34 others", up.parts(-1), NONE);
        due("35", up.deputies(), 6);
        due("35", chain(1, 0).deputies(), 1);
        due("35 of like ones the lowest", chain(2, 0).deputies(), 1);
        due("35 of like ones the lowest", chain(4, 0).deputies(), 5);
        due("35 none", new ApologyUp().deputies(), 0);
        due("36", up.ranked(2, false), 3);
        due("36", up.ranked(9, false), 0);
        due("36 others", up.ranked(10, false), NONE);
        due("36 others", up.ranked(-1, true), NONE);
    }

    private static void games() {
        ApologyUp up = new ApologyUp();
        due("37 others", up.owes(2, 0, 0), false);
        due("37 others", up.owes(-1, 0, 0), false);
        due("37 others", up.owes(0, 5, 0), false);
        due("37 others", up.owes(0, -1, 0), false);
        due("37 others", up.owes(0, 0, 100), false);
        due("37 others", up.owes(0, 0, -1), false);
        due("38 others", up.play(2, true), -2);
        due("38 others", up.play(-1, false), -2);
        for (int k = 0; k < 5; k++) {
            due("37", up.owes(0, k, 50), true);
            due("37", up.owes(1, k, 50), true);
        }
        // Who would lose at the end bows in its last turn; the other one waits for that.
        due("38 the one who began loses", up.play(0, true), 0);
        due("38 the other one loses", up.play(0, false), 1);
        due("38 the one who began loses", up.play(1, true), 1);
        due("38 the other one loses", up.play(1, false), 0);
        for (int k = 0; k < 5; k++) {
            up.owes(0, k, 99);
            up.owes(1, k, 99);
        }
        due("38 alike: bows", up.play(0, true), 0);
        // The one that began would pay 0 at the end, so it never bows at a price.
        for (int k = 0; k < 5; k++) {
            up.owes(0, k, 1);
        }
        due("38", up.play(0, false), 1);
        // Just its fifth turn is free for the one who begins: it bows then, or at once if all is alike.
        ApologyUp fifth = new ApologyUp();
        for (int k = 0; k < 4; k++) {
            fifth.owes(0, k, 5);
            fifth.owes(1, k, 5);
        }
        due("38 its fifth turn", fifth.play(0, true), 0);
        due("38 its fifth turn", fifth.play(0, false), 0);
        fifth.owes(0, 4, 1);
        due("38", fifth.play(0, true), 0);
        due("38 its fifth turn isn't free", fifth.play(0, false), 1);
    }

    private static void whoseLaw() {
        ApologyUp up = chain(3, 2);
        due("40 no texts", up.whose(), 0);
        Checks.read(up, "adds who+1;");
        Checks.read(up, "pardons 1;");
        Checks.read(up, "adds 3;");
        Checks.read(up, "adds rank+size-9+to+days+desk+day;");
        due("40 nothing told", up.whose(), 15);
        due("39 others", up.added(3, 1), -2);
        due("39 others", up.added(-2, 1), -2);
        due("39 others", up.added(0, 1000), -2);
        due("39 others", up.added(0, -1), -2);
        due("39", up.added(2, 3), 1);
        due("40", up.whose(), 15);
        due("39", up.added(1, 3), 2);
        due("40 without adds: pride and 1", up.whose(), 6);
        due("39 none any more", up.added(NONE, 5), 0);
        due("47", up.about(5), 0);
        due("39", up.added(1, 2), 1);
        due("40", up.whose(), 9);
        up.day(1);
        due("40 the day as now", up.whose(), 1);
        for (int i = 2; i <= 8; i++) {
            due("39", up.added(1, 2), i);
        }
        due("39 a ninth", up.added(1, 2), -2);
        due("47", up.about(5), 8);
    }

    private static void sums() {
        ApologyUp up = family();
        due("41 none", up.stuck(), NONE);
        due("42 none", up.eldest(), NONE);
        due("43", up.sorry(NONE), 0);
        up.wrong(5, 0, 7);
        up.away(5, 9);
        up.day(1);
        up.wrong(4, 0, 3);
        up.wrong(4, 1, 5);
        up.wrong(3, 0, 2);
        up.wrong(3, 1, 2);
        due("41 of like ones the lowest", up.stuck(), 3);
        due("42", up.eldest(), 0);
        due("43", up.sorry(4), 8);
        due("43 from all", up.sorry(NONE), 19);
        due("43 others", up.sorry(6), -2);
        due("43 others", up.sorry(-2), -2);
        due("36 sizes", up.ranked(2, true), 19);
        due("36 sizes", up.ranked(1, true), 0);
        due("16 desk", up.of(4, 5), 2);
        ApologyUp done = chain(2, 0);
        done.wrong(1, 0, 8);
        done.day(1);
        done.wrong(1, 0, 8);
        done.day(1);
        due("44 done with", done.befell(2), 1);
        due("44 pardoned", done.befell(0), 2);
        due("42 not what is done with", done.eldest(), 1);
        due("41", done.stuck(), 0);
        due("43", done.sorry(1), 9);
    }

    private static void images() {
        ApologyUp up = chain(3, 0);
        up.cousin(1, 2);
        up.wrong(2, 0, 5);
        up.day(1);
        up.pile(4);
        up.weigh(0, 9);
        up.owes(0, 0, 7);
        Checks.read(up, "adds 7;");
        up.by(0);
        up.added(1, 7);
        Checks.tape(up, "adds 1");
        due("45", up.image(), 1);
        Checks.read(up, "adds;");
        Checks.tape(up, "adds 12;");
        up.text();
        Checks.tape(up, "wears");
        due("7", up.fault(0), 0);
        up.by(1);
        up.officer(0, 0);
        up.cousin(0, 2);
        up.away(1, 9);
        up.day(5);
        up.pile(NONE);
        up.pile(5);
        up.weigh(0, 1);
        up.owes(0, 0, 0);
        up.added(NONE, 0);
        up.added(2, 8);
        due("46", up.back(), 1);
        due("46 officers", up.about(0), 3);
        due("46 texts", up.about(1), 1);
        due("46 the text", up.about(2), 0);
        due("46 steps", up.about(3), 2);
        due("46 pile", up.about(4), 1);
        due("46 added", up.about(5), 1);
        due("46 but the tape", up.about(6), 5);
        due("46 cousins", up.of(2, 6), 2);
        due("46 away", up.of(1, 3), 0);
        due("46 weights", up.apart(true), 10);
        due("46 turns", up.play(0, true), 1);
        due("46 laws", up.of(1, 4), 7);
        due("46 whose", up.whose(), 1);
        due("46 pile", up.piles(4, 0), 1);
        due("15 steps", up.undo(), 1);
        due("15", up.is(0), 0);
        due("46 it stays", up.back(), 1);
        due("46 steps", up.about(3), 2);
        Checks.read(up, "adds");
        due("7", up.fault(1), 4);
        up.back();
        due("46 but the latest fault", up.fault(1), 4);
    }
}
