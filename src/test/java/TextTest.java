/** FAULTS with their places, and what SUMS come to. */
public final class TextTest {
    private static final int NONE = ApologyUp.NONE;

    public static void main(String[] args) {
        right();
        tokens();
        cantStand();
        numbers();
        depth();
        twice();
        names();
        manyClauses();
        theLeast();
        sums();
        Checks.finish("TextTest");
    }

    private static void fault(String text, int kind, int place) {
        ApologyUp up = new ApologyUp();
        Checks.due("text " + text, Checks.read(up, text), kind == 0 ? 0 : NONE);
        Checks.due("fault of " + text, up.fault(0), kind);
        Checks.due("place of " + text, up.fault(1), place);
    }

    private static void fine(String text) {
        fault(text, 0, NONE);
    }

    private static String times(String part, int n) {
        return part.repeat(n);
    }

    private static void right() {
        fine("");
        fine("   \n\n ");
        fine("adds 0;pardons 0;wears 0;");
        fine("adds day+size+who+pride+rank+from+to+days+desk;");
        fine("pardons day+size+who+pride+rank+from+to+days;");
        fine("wears day+size+who+pride+rank+from+to;");
        fine("officer 9 under 9;cousin 9 to 9;wrong 9 to 9 size 9999;away 9 days 99;send 9 to 9;day 60;");
        fine("officer 0 under 0;cousin 0 to 0;wrong 0 to 0 size 1;away 0 days 0;send 0 to 0;day 1;");
        fine("adds if not 1<2 and 3<=4 or 5>6 and 7>=8 or 9=9 or not not 1#2 then 1 else 2 end;");
        fine("adds halves - 3 by (1+2)*ranks who;");
        fine("adds-1;");
        fine("adds 1 - -1;");
        fine("adds0000000000000000001;");
        fine("day 0060;");
        fine(times("day 1;", 24));
        fine("adds " + times("1+", 146) + "10;");
        fine(times("adds 1;", 1) + times(" ", 293));
    }

    private static void tokens() {
        fault("adds 1;!", 1, 7);
        fault("adds 1\t;", 1, 6);
        fault("adds 1;\r", 1, 7);
        fault("adds 1;\u0000", 1, 7);
        fault("adds 1;\u00ff", 1, 7);
        fault("Adds 1;", 1, 0);
        fault("addsx 1;", 1, 0);
        for (String letter : new String[] {"a", "z", "A", "Z"}) {
            fault("adds" + letter + " 1;", 1, 0);
        }
        for (String sign : new String[] {"@", "[", "`", "{", ":", "/", "_"}) {
            fault("adds" + sign + "1;", 1, 4);
        }
        fault("adds 1x;", 1, 6);
        fault("adds if 1<>2 then 1 else 1 end;", 1, 10);
        fault("adds if 1==2 then 1 else 1 end;", 1, 10);
        fault("adds if 1< =2 then 1 else 1 end;", 1, 11);
        fault("adds if 1=<2 then 1 else 1 end;", 1, 10);
        fine("adds if 1<=2 then 1 else 1 end;");
    }

    private static void cantStand() {
        fault("adds", 1, 4);
        fault("adds ", 1, 5);
        fault("adds;", 1, 4);
        fault("adds 1", 1, 6);
        fault("adds 1 \n", 1, 8);
        fault(";", 1, 0);
        fault("adds 1;;", 1, 7);
        fault("1", 1, 0);
        fault("size 1;", 1, 0);
        fault("adds +1;", 1, 5);
        fault("adds 1 2;", 1, 7);
        fault("adds 1 size;", 1, 7);
        fault("adds (1;", 1, 7);
        fault("adds 1);", 1, 6);
        fault("adds ();", 1, 6);
        fault("adds not 1;", 1, 5);
        fault("adds under;", 1, 5);
        fault("adds adds;", 1, 5);
        fault("adds halves 1 + 2 by 3;", 1, 14);
        fault("adds halves by 1;", 1, 12);
        fault("adds if (1<2) then 1 else 2 end;", 1, 10);
        fault("adds if 1 then 1 else 2 end;", 1, 10);
        fault("adds if 1<2<3 then 1 else 2 end;", 1, 11);
        fault("adds if 1<2 else 2 end;", 1, 12);
        fault("adds if 1<2 then 1 end;", 1, 19);
        fault("adds if 1<2 then 1 else 2;", 1, 25);
        fault("adds if 1<2 and then 1 else 2 end;", 1, 16);
        fault("adds if 1<2 or not then 1 else 2 end;", 1, 19);
        fault("officer under 1;", 1, 8);
        fault("officer 1 to 1;", 1, 10);
        fault("officer 1 under who;", 1, 16);
        fault("officer 1 under (1);", 1, 16);
        fault("officer 1 under -1;", 1, 16);
        fault("cousin 1 under 1;", 1, 9);
        fault("wrong 1 to 1;", 1, 12);
        fault("wrong 1 to 1 size;", 1, 17);
        fault("away 1 day 1;", 1, 7);
        fault("send 1 under 1;", 1, 7);
        fault("day;", 1, 3);
        fault("day 1+1;", 1, 5);
        fault("day 1 day 1;", 1, 6);
    }

    private static void numbers() {
        fault("adds 10000;", 2, 5);
        fault("adds 99999999999999999999999999;", 2, 5);
        fault("adds 4294967297;", 2, 5);
        fault("officer 10 under 0;", 2, 8);
        fault("officer 0 under 10;", 2, 16);
        fault("cousin 10 to 0;", 2, 7);
        fault("cousin 0 to 10;", 2, 12);
        fault("wrong 10 to 0 size 1;", 2, 6);
        fault("wrong 0 to 10 size 1;", 2, 11);
        fault("wrong 0 to 0 size 0;", 2, 18);
        fault("wrong 0 to 0 size 10000;", 2, 18);
        fault("away 10 days 1;", 2, 5);
        fault("away 0 days 100;", 2, 12);
        fault("send 10 to 0;", 2, 5);
        fault("send 0 to 10;", 2, 10);
        fault("day 0;", 2, 4);
        fault("day 61;", 2, 4);
    }

    private static void depth() {
        fine("adds " + times("(", 8) + "1" + times(")", 8) + ";");
        fault("adds " + times("(", 9) + "1" + times(")", 9) + ";", 3, 13);
        fine("adds " + times("-", 8) + "1;");
        fault("adds " + times("-", 9) + "1;", 3, 13);
        fine("adds " + times("-(", 4) + "1" + times(")", 4) + "+" + times("-", 8) + "1;");
        fine("adds " + times("ranks ", 8) + "1;");
        fault("adds " + times("ranks ", 9) + "1;", 3, 53);
        fine("adds if " + times("not ", 7) + "1<1 then 1 else 1 end;");
        fault("adds if " + times("not ", 8) + "1<1 then 1 else 1 end;", 3, 36);
        fine("adds if " + times("not ", 7) + "1<1 and " + times("not ", 7) + "1<1 then 1 else 1 end;");
        fault("adds if " + times("not ", 7) + "(1)<1 then 1 else 1 end;", 3, 36);
        fault("adds if " + times("not ", 7) + "1<(1) then 1 else 1 end;", 3, 38);
        fine("adds " + times("halves 1 by ", 8) + "1;");
        fault("adds " + times("halves 1 by ", 9) + "1;", 3, 101);
        fine("adds " + times("halves ", 8) + "1" + times(" by 1", 8) + ";");
        fault("adds " + times("halves ", 9) + "1" + times(" by 1", 9) + ";", 3, 61);
        fine("adds " + times("halves ", 8) + "1" + times(" by 1", 7) + " by -1;");
        fault("adds " + times("halves ", 8) + "1 by -1" + times(" by 1", 7) + ";", 3, 66);
        fine("adds " + times("if 1<1 then 1 else ", 8) + "1" + times(" end", 8) + ";");
        fault("adds " + times("if 1<1 then 1 else ", 9) + "1" + times(" end", 9) + ";", 3, 157);
        fault("adds (((((((1))))))) + (((((((((1;", 3, 31);
    }

    private static void twice() {
        fault("adds 1;adds 2;", 4, 7);
        fault("pardons 1;adds 1;pardons 2;", 4, 17);
        fault("wears 1;day 1;wears 2;", 4, 14);
        fault("adds 1;adds", 4, 7);
    }

    private static void names() {
        fault("wears days;", 5, 6);
        fault("wears desk;", 5, 6);
        fault("pardons desk;", 5, 8);
        fault("wears 1+days;", 5, 8);
        fault("wears 1 days;", 1, 8);
        fault("wears day+(-desk);", 5, 12);
    }

    private static void manyClauses() {
        fault(times("day 1;", 24) + "day 1;", 6, 144);
        fault(times("day 1;", 24) + " day 61;", 6, 145);
        fault(times("day 1;", 24) + "adds", 6, 144);
    }

    private static void theLeast() {
        fault("adds 1;" + times("day 1;", 23) + "adds 1;", 4, 145);
        fault(times("day 1;", 24) + "size", 1, 144);
        fault("adds 1 10000;", 1, 7);
        fault("officer 1 10000 0;", 1, 10);
        fault("adds " + times("(", 8) + "1(", 1, 14);
        fault("adds 10000!", 2, 5);
        fault("day 61 61;", 2, 4);
    }

    /** What a law says of officer 2 of a chain of 0 .. 4, of pride 6; size 10. */
    private static void adds(String sum, int want) {
        ApologyUp up = new ApologyUp();
        for (int i = 0; i < 5; i++) {
            up.officer(i - 1, i * 3 % 10);
        }
        int text = Checks.read(up, "adds " + sum + ";");
        Checks.due("text " + sum, text, 0);
        up.by(text);
        Checks.due(sum, up.of(2, 4), want);
    }

    private static void sums() {
        adds("who*100+pride*10+rank", 262);
        adds("size+from+to+day+days+desk", 12);
        adds("halves 100 by 3", 12);
        adds("halves 100 by 0", 100);
        adds("halves 100 by -5", 100);
        adds("halves 100 by 7", 0);
        adds("9+halves -17 by 1", 1);
        adds("9+halves -17 by 4", 8);
        adds("halves (9999*9999) by 19", 1);
        adds("halves (9999*9999) by 20", 0);
        adds("halves (9999*9999) by 9999", 0);
        adds("halves 64 by halves 8 by 2", 16);
        adds("halves 100 by 2*3", 75);
        adds("ranks 4*10+ranks 0", 40);
        adds("ranks 5+ranks -1+7", 7);
        adds("ranks(1+2)", 3);
        adds("ranks ranks 3", 3);
        adds("- -5", 5);
        adds("10--5", 15);
        adds("7/2*2+-7/2+10", 13);
        adds("10-2*3-1", 3);
        adds("(10-2)*(3-1)", 16);
        adds("1/0+3", 3);
        adds("if 1<1 then 1 else 2 end", 2);
        adds("if 1<=1 then 1 else 2 end", 1);
        adds("if 1>1 then 1 else 2 end", 2);
        adds("if 1>=1 then 1 else 2 end", 1);
        adds("if 1=1 then 1 else 2 end", 1);
        adds("if 1#1 then 1 else 2 end", 2);
        adds("if not 1=1 then 1 else 2 end", 2);
        adds("if not 1=1 or 1=1 then 1 else 2 end", 1);
        adds("if 1=1 or 1=1 and 1=2 then 1 else 2 end", 1);
        adds("if 1=2 and 1=1 or 1=1 then 1 else 2 end", 1);
        adds("if 1=2 and 1=1 or 1=2 then 1 else 2 end", 2);
        adds("if 1=1 then if 1=2 then 3 else 4 end else 5 end*10+1", 41);
        adds("2*if who=2 then 3+4 else 5 end", 14);
        adds("9999*9999*9999/9999*9", 900);
        adds("0-9999*9999*9999/-9999*9", 900);
        adds("9999*100+9999*100-9999*100+5-300", 0);
        adds("9999*100+9999*100-9999*100+5", 105);
        adds("500-1", 499);
        adds("1-2", 0);
        adds("9999", 999);
    }
}
