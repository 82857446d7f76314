/** Promises 10 to 15 and the language of part II: the tape, texts, faults, sums and what is played. */
public final class TextTest {
    private static final int NONE = CandleEnds.NONE;
    private static final int OTHER = -2;
    private static final Check CHECK = new Check();

    private TextTest() {
    }

    public static void main(String[] args) {
        promise10Feed();
        promise11End();
        promise12Text();
        promise13Fault();
        promise14By();
        promise15Played();
        promise15PlayedByTheLawThatRules();
        soundTexts();
        faultOfPlace();
        faultOfNumber();
        faultOfDepth();
        faultOfTwice();
        faultOfName();
        faultOfClauses();
        sums();
        deepSum();
        names();
        CHECK.close("TextTest");
    }

    private static void due(String what, long got, long want) {
        CHECK.due(what, got, want);
    }

    private static void promise10Feed() {
        CandleEnds x = new CandleEnds();
        for (int i = 1; i <= 15; i++) {
            due("10: feed " + i, x.feed(0x6f757420, 0x20202020, 0x20202020, 0x20202020, 0x20202020), 20 * i);
        }
        due("10: 320", x.feed(0, 0, 0, 0, 0), NONE);
        due("10: 300 stay", x.about(6), 300);
        x.end(281);
        due("10: 301", x.feed(0, 0, 0, 0, 0), NONE);
        due("10: 281 stay", x.about(6), 281);
        x.end(280);
        due("10: 300 again", x.feed(0, 0, 0, 0, 0), 300);
        x.end(20);
        due("10: behind what is there", x.feed(0x393b0000, 0, 0, 0, 0), 40);
        x.end(22);
        due("10: the highest byte first", x.text(), 0);
        x.house(1, 1);
        x.candle(1, 1);
        x.by(0);
        due("10: its law", x.says(0, 0, 0, 3), 9);
        x.feed(-1, -1, -1, -1, -1);
        due("10: a byte of 255 is no token", x.text(), NONE);
        due("10: at the first", x.fault(1), 0);
        x.feed(0x6f757420, 0x3120ffff, 0, 0, 0);
        due("10: bytes above 127", x.text(), NONE);
        due("10: their place", x.fault(1), 6);
    }

    private static void promise11End() {
        CandleEnds x = new CandleEnds();
        due("11: 0 of none", x.end(0), 0);
        due("11: 1 of none", x.end(1), NONE);
        x.feed(1, 2, 3, 4, 5);
        due("11: 21", x.end(21), NONE);
        due("11: -1", x.end(-1), NONE);
        due("11: nothing was done", x.about(6), 20);
        due("11: all", x.end(20), 20);
        due("11: fewer", x.end(7), 7);
        due("11: tape", x.about(6), 7);
        due("11: no more again", x.end(8), NONE);
        due("11: none", x.end(0), 0);
    }

    private static void promise12Text() {
        CandleEnds x = new CandleEnds();
        due("12: the empty one", x.text(), 0);
        due("12: blanks", Tape.tell(x, " \n "), 1);
        due("12: a fault", Tape.tell(x, "out"), NONE);
        due("12: the tape is empty then", x.about(6), 0);
        due("12: texts", x.about(3), 2);
        due("12: the third", Tape.tell(x, "out 1;"), 2);
        due("12: the tape is empty", x.about(6), 0);
        due("12: the fourth", Tape.tell(x, "out 2;"), 3);
        due("12: the fifth", Tape.tell(x, "out 3; moths"), NONE);
        due("12: the tape stays", x.about(6), 12);
        due("12: it wasn't read", x.fault(0), 0);
        due("12: four", x.about(3), 4);
        due("12: no step", x.about(5), 0);
    }

    private static void promise13Fault() {
        CandleEnds x = new CandleEnds();
        due("13: ahead of any", x.fault(0), NONE);
        due("13: place ahead of any", x.fault(1), NONE);
        Tape.tell(x, "price 1; x");
        due("13: fault", x.fault(0), 1);
        due("13: place", x.fault(1), 9);
        due("13: 2", x.fault(2), NONE);
        due("13: -1", x.fault(-1), NONE);
        Tape.put(x, "half");
        due("13: the latest that was read", x.fault(1), 9);
        x.end(0);
        x.text();
        due("13: without", x.fault(0), 0);
        due("13: no place", x.fault(1), NONE);
        due("13: 2 again", x.fault(2), NONE);
    }

    private static void promise14By() {
        CandleEnds x = new CandleEnds();
        CHECK.due("14: none told", x.by(0), false);
        CHECK.due("14: NONE", x.by(NONE), true);
        x.house(1, 1);
        x.candle(1, 1);
        Tape.tell(x, "price 7;");
        due("14: it doesn't rule yet", x.says(0, 0, 0, 0), 1);
        CHECK.due("14: told", x.by(0), true);
        due("14: it rules", x.says(0, 0, 0, 0), 7);
        CHECK.due("14: 1", x.by(1), false);
        CHECK.due("14: -2", x.by(-2), false);
        due("14: it rules yet", x.about(4), 0);
        CHECK.due("14: NONE again", x.by(NONE), true);
        due("14: it rules no more", x.says(0, 0, 0, 0), 1);
        due("14: no text", x.about(4), NONE);
    }

    private static void promise15Played() {
        CandleEnds x = new CandleEnds();
        due("15: none", x.played(0), OTHER);
        due("15: NONE", x.played(NONE), OTHER);
        due("15: moths without houses", x.played(Tape.tell(x, "out 1; moths 1;")), 1);
        x.house(0, 10);
        x.house(0, 10);
        x.candle(3, 3);
        Tape.tell(x, "tears 9; buy 0 of 0 for 1; light 0; burn 0; moths 2; burn 0; burn 0; price 1;");
        due("15: all is done", x.played(1), NONE);
        due("15: steps", x.about(5), 6);
        due("15: owner", x.candleOf(0, 10), 1);
        due("15: burnt", x.candleOf(0, 2), 3);
        due("15: it doesn't rule", x.houseOf(1, 1), 7);
        due("15: debt", x.houseOf(1, 2), 6);
        due("15: once more", x.played(1), 1);
        due("15: nothing was done", x.about(5), 6);
        x.candle(1, 2);
        Tape.tell(x, "buy 1 of 1 for 0; out 1; buy 0 of 1 for 0; light 1; light 1; burn 1;");
        due("15: the clause that can't be", x.played(2), 4);
        due("15: what was done stays", x.candleOf(1, 2), 1);
        due("15: and no more", x.candleOf(1, 4), 0);
        due("15: steps now", x.about(5), 9);
        due("15: each is a step", x.undo(), 8);
        due("15: 3", x.played(3), OTHER);
        due("15: -2", x.played(-2), OTHER);
        due("15: the empty one", x.played(Tape.tell(x, "")), NONE);
    }

    private static void promise15PlayedByTheLawThatRules() {
        CandleEnds x = new CandleEnds();
        x.house(0, 100);
        x.candle(3, 2);
        Tape.ruledBy(x, "price 10; burns 5; tears 2;");
        Tape.tell(x, "price 50; buy 0 of 0 for 0; light 0; burn 0;");
        due("15: all", x.played(1), NONE);
        due("15: by the law's price", x.houseOf(0, 1), 92);
        due("15: by the law's minutes", x.houseOf(0, 3), 5);
    }

    private static void fault(String text, int why, int place) {
        CandleEnds x = new CandleEnds();
        due("text '" + text + "'", Tape.tell(x, text), why == 0 ? 0 : NONE);
        due("fault of '" + text + "'", x.fault(0), why);
        due("place in '" + text + "'", x.fault(1), place);
    }

    private static void soundTexts() {
        fault("price1+2*3/4-5;", 0, NONE);
        fault("price\n1 ;\n", 0, NONE);
        fault("buy 0of 0for 0;", 0, NONE);
        fault("buy 11 of 5 for 7;light 5;burn 0;moths 1;moths 30;", 0, NONE);
        fault("price 00000000009999;", 0, NONE);
        fault("moths 0030;", 0, NONE);
        fault("price wax-debt;burns house+draught;tears candle*thick;out length/inch;", 0, NONE);
        fault("price 1--2;", 0, NONE);
        fault("price (((((((( 1 ))))))));", 0, NONE);
        fault("price --------1;", 0, NONE);
        fault("zzz", 1, 0);
        fault("price 1;az", 1, 8);
        fault("price 1;AZ", 1, 8);
        fault("price " + "1+".repeat(146) + "1;", 0, NONE);
        fault("price " + "1+".repeat(146) + "1+", 1, 300);
        fault("price1;" + " ".repeat(292) + ";", 1, 299);
        fault("price 1" + "-1".repeat(146) + "*", 1, 300);
        fault("out" + "1+".repeat(148) + ";", 1, 299);
        fault("burn0;".repeat(24) + " ".repeat(156), 0, NONE);
        fault("price -(-(-(-(1))))+-(-(-(-(1))));", 0, NONE);
    }

    private static void faultOfPlace() {
        fault(";", 1, 0);
        fault("price;", 1, 5);
        fault("price 1", 1, 7);
        fault("price 1  ", 1, 9);
        fault("price 1;;", 1, 8);
        fault("price 1 2;", 1, 8);
        fault("price 1 10000;", 1, 8);
        fault("10000;", 1, 0);
        fault("price (1;", 1, 8);
        fault("price 1);", 1, 7);
        fault("price ();", 1, 7);
        fault("price +1;", 1, 6);
        fault("price 1+;", 1, 8);
        fault("price 1*;", 1, 8);
        fault("price 1-", 1, 8);
        fault("price 1 price 2;", 1, 8);
        fault("price price;", 1, 6);
        fault("burns 1 wax;", 1, 8);
        fault("burns nothing;", 1, 6);
        fault("Price 1;", 1, 0);
        fault("prices 1;", 1, 0);
        fault("pric e 1;", 1, 0);
        fault("price Wax;", 1, 6);
        fault("\tprice 1;", 1, 0);
        fault("price\r1;", 1, 5);
        fault("price 1 # 2;", 1, 8);
        fault("price 1=2;", 1, 7);
        fault("price 1>=2;", 1, 7);
        fault("price 1<2;", 1, 7);
        fault("buy 0 of 0;", 1, 10);
        fault("buy 0 for 0 of 0;", 1, 6);
        fault("buy -1 of 0 for 0;", 1, 4);
        fault("buy house of 0 for 0;", 1, 4);
        fault("light wax;", 1, 6);
        fault("light 0", 1, 7);
        fault("burn (0);", 1, 5);
        fault("moths;", 1, 5);
        fault("of 1;", 1, 0);
        fault("wax 1;", 1, 0);
    }

    private static void faultOfNumber() {
        fault("price 9999;", 0, NONE);
        fault("price 10000;", 2, 6);
        fault("price 1+99999999999999999999999999;", 2, 8);
        fault("price 4294967297;", 2, 6);
        fault("buy 12 of 9 for 9;", 2, 4);
        fault("buy 11 of 6 for 9;", 2, 10);
        fault("buy 11 of 5 for 8;", 2, 16);
        fault("light 6;", 2, 6);
        fault("burn 6;", 2, 5);
        fault("burn 10000", 2, 5);
        fault("moths 0;", 2, 6);
        fault("moths 31;", 2, 6);
        fault("moths 31 of", 2, 6);
    }

    private static void faultOfDepth() {
        fault("price ((((((((( 1", 3, 14);
        fault("price ---------1;", 3, 14);
        fault("price (-(-(-(-(1", 3, 14);
        fault("price 1 - (-(-(-(-(1", 3, 18);
        fault("price ((((((((-1", 3, 14);
        fault("price ((((((((1-1))))))));", 0, NONE);
        fault("price ((((((((1(", 1, 15);
        fault("price -1*-1*-1*-1*-1*-1*-1*-1*-1*-1;", 0, NONE);
        fault("price (1)+(1)+(1)+(1)+(1)+(1)+(1)+(1)+(1)+(1);", 0, NONE);
    }

    private static void faultOfTwice() {
        fault("price 1;price 2;", 4, 8);
        fault("burns 1;out 1;burns", 4, 14);
        fault("tears 1;tears", 4, 8);
        fault("out 1;out out", 4, 6);
        fault("light 0;light 0;", 0, NONE);
        fault("out 1;" + "burn 0;".repeat(23) + "out", 4, 167);
    }

    private static void faultOfName() {
        fault("burns wax;", 5, 6);
        fault("tears 1+debt;", 5, 8);
        fault("out (wax);", 5, 5);
        fault("price wax;out wax;", 5, 14);
        fault("price wax+debt+house+draught+candle+thick+length+inch;", 0, NONE);
    }

    private static void faultOfClauses() {
        fault("burn 0;".repeat(24), 0, NONE);
        fault("burn 0;".repeat(24) + " ", 0, NONE);
        fault("burn 0;".repeat(24) + "burn", 6, 168);
        fault("burn 0;".repeat(24) + " out 1;", 6, 169);
        fault("burn 0;".repeat(24) + "wax", 1, 168);
        fault("burn 0;".repeat(24) + ";", 1, 168);
        fault("burn 0;".repeat(23) + "burn 6;burn", 2, 166);
    }

    /** A sum as deep as may be, each level with a sum and a product that wait, and again behind a text with a fault. */
    private static void deepSum() {
        CandleEnds x = new CandleEnds();
        x.house(3, 40);
        x.candle(7, 12);
        for (int i = 0; i < 5; i++) {
            Tape.tell(x, "out 7; price " + "1+".repeat(120) + "8*(9+1; out");
            due("its fault", x.fault(0), 1);
        }
        due("deep", Tape.tell(x, "burns 4;price 1+1*(1+1*(1+1*(1+1*(1+1*(1+1*(1+1*(1+1*(1+2*3))))))));light 0;"), 0);
        x.by(0);
        due("deep price", x.says(0, 0, 0, 0), 15);
        due("burns beside it", x.says(0, 0, 0, 1), 4);
        due("no tears", x.says(0, 0, 0, 2), 0);
        due("out that was never told", x.says(0, 0, 0, 3), 3);
        due("the number of the clause", x.played(0), 2);
    }

    /** What 50 and the sum make of it: price is 0 .. 99, so sums are shown about its middle. */
    private static void sum(String sum, int want) {
        CandleEnds x = new CandleEnds();
        x.house(3, 40);
        x.candle(7, 12);
        due("told 50 + (" + sum + ")", Tape.tell(x, "price 50 + (" + sum + ");"), 0);
        x.by(0);
        due("50 + (" + sum + ")", x.says(0, 0, 2, 0), 50 + want);
    }

    private static void sums() {
        sum("1+2*3", 7);
        sum("(1+2)*3", 9);
        sum("10-3-2", 5);
        sum("10-(3-2)", 9);
        sum("20/3/2", 3);
        sum("20/(3/2)", 20);
        sum("7/2*2", 6);
        sum("2*7/2", 7);
        sum("-7/2", -3);
        sum("7/-2", -3);
        sum("5/0", 0);
        sum("0-5/0", 0);
        sum("5/(1-1)*3", 0);
        sum("-3*-4", 12);
        sum("--5", 5);
        sum("2--5", 7);
        sum("-(2+3)", -5);
        sum("-2+3", 1);
        sum("9999*9999-9999*100-51", 49);
        sum("9999*9999-9999*100-99", 1);
        sum("(0-9999*9999)+9999*100+99", -1);
        sum("30-2*(1-3*(0+1*(2-1*(2-1*(0+1*(1))))))", 34);
        sum("9999*9999/9999/10", 10);
        sum("9999*9999*9999/9999/10", 10);
        sum("-9999*9999/9999/10", -10);
        sum("(9999*100+9999)/9999/10", 10);
        sum("(0-9999*100-9999)/9999/10", -10);
        sum("wax/10+thick-draught+length-inch+candle+house", 4 + 7 - 3 + 12 - 2);
    }

    private static void names() {
        CandleEnds x = new CandleEnds();
        for (int i = 0; i < 4; i++) {
            x.house(9 - i, 30 + i);
            x.candle(5 + i, 2 + i);
        }
        Tape.tell(x, "price house*10+draught;burns candle*10+thick;tears length*10+inch;out inch;");
        x.by(0);
        due("house, draught", x.says(3, 2, 1, 0), 36);
        due("candle, thick", x.says(3, 2, 1, 1), 27);
        due("length, inch", x.says(3, 2, 1, 2), 41);
        due("inch", x.says(3, 2, 3, 3), 3);
        Tape.tell(x, "price wax-debt*10;");
        x.by(1);
        due("wax", x.says(3, 2, 1, 0), 33);
        x.by(NONE);
        x.buy(3, 0, 0);
        x.light(0);
        x.burn(0);
        x.burn(0);
        due("its debt", x.houseOf(3, 2), 5);
        x.repay(3, 4);
        x.by(1);
        due("wax and debt", x.says(3, 2, 1, 0), 33 - 5 - 4 - 10);
        due("law of another text is gone", x.says(3, 2, 1, 2), 0);
        due("out without it is the draught", x.says(3, 2, 1, 3), 6);
    }
}
