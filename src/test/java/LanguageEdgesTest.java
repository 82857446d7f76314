import java.io.IOException;

/** The edges that part II of the terms names: texts, tokens, clauses, faults, sums, laws and what is played. */
public final class LanguageEdgesTest {
    private static final int NONE = CandleEnds.NONE;

    private final Edges edges = new Edges();

    private LanguageEdgesTest() throws IOException {
    }

    public static void main(String[] args) throws IOException {
        LanguageEdgesTest t = new LanguageEdgesTest();
        t.textsFour();
        t.bytesOfText();
        t.blanks();
        t.letters();
        t.everyLetterCounts();
        t.digits();
        t.numbers();
        t.signs();
        t.clausesMany();
        t.eachOnce();
        t.buyNumbers();
        t.candleNumbers();
        t.mothsNumbers();
        t.sumParts();
        t.ones();
        t.namesInAll();
        t.namesInPrice();
        t.fromTheLeft();
        t.towardsZero();
        t.byZero();
        t.aboveMillion();
        t.belowMillion();
        t.atEachStep();
        t.firstFault();
        t.atTheFirstByte();
        t.leastOfOne();
        t.faultOne();
        t.faultTwo();
        t.faultThree();
        t.faultFour();
        t.faultFive();
        t.faultSix();
        t.theTextAtFirst();
        t.priceBounds();
        t.burnsBounds();
        t.tearsBounds();
        t.outBounds();
        t.playedInOrder();
        t.playedByNumbers();
        t.playedToTheEnd();
        t.playedStays();
        t.edges.close("LanguageEdgesTest");
    }

    private void due(String what, long got, long want) {
        edges.due(what, got, want);
    }

    /** Read on a new object; why 0: it is a text. */
    private void fault(String text, int why, int place) {
        CandleEnds x = new CandleEnds();
        due("text \"" + text + "\"", Tape.tell(x, text), why == 0 ? 0 : NONE);
        due("fault of \"" + text + "\"", x.fault(0), why);
        due("place in \"" + text + "\"", x.fault(1), place);
        due("texts behind \"" + text + "\"", x.about(3), why == 0 ? 1 : 0);
    }

    private void sound(String text) {
        fault(text, 0, NONE);
    }

    /** What the law of this text says of house 0 (draught 3, wax 40) and inch 2 of candle 0 (thick 7, length 12). */
    private static int law(String text, int what) {
        CandleEnds x = new CandleEnds();
        x.house(3, 40);
        x.candle(7, 12);
        Tape.ruledBy(x, text);
        return x.says(0, 0, 2, what);
    }

    /** The price is 0 .. 99, so the sum is shown about 50. */
    private void sum(String sum, int want) {
        due("50 + (" + sum + ")", law("price 50 + (" + sum + ");", 0), 50 + want);
    }

    private void textsFour() {
        edges.sentence("TEXTS 0 .. 3: of up to 300 bytes");
        CandleEnds x = new CandleEnds();
        edges.due("none yet", x.by(0), false);
        for (int text = 0; text < 4; text++) {
            due("number", Tape.tell(x, "price " + text + ";"), text);
            edges.due("the next isn't told", x.by(text + 1), false);
        }
        Tape.put(x, "price 4;");
        edges.refused("a fifth", x, x::text, NONE);
        x.house(0, 0);
        x.candle(9, 1);
        for (int text = 0; text < 4; text++) {
            x.by(text);
            due("each stays", x.says(0, 0, 0, 0), text);
        }
    }

    private void bytesOfText() {
        edges.sentence("of up to 300 bytes");
        sound("");
        sound("price " + "1+".repeat(146) + "1;");
        sound("tears 9;" + " ".repeat(292));
        sound(" ".repeat(292) + "tears 9;");
        sound("price " + "-".repeat(7) + "1" + "*1".repeat(142) + ";");
        for (String sign : new String[] {"(", ")", "-", ";", "$", "<", "7", "x"}) {
            fault(sign.repeat(300), 1, 0);
        }
        fault("price" + "(".repeat(295), 3, 13);
        fault("price" + "-".repeat(295), 3, 13);
        fault("price1" + ";".repeat(294), 1, 7);
        fault("price1" + "*".repeat(294), 1, 7);
        due("the last of 300 counts", law("tears" + " ".repeat(292) + "42;", 2), 42);
        CandleEnds x = new CandleEnds();
        Tape.put(x, " ".repeat(300));
        edges.refused("20 behind 300", x, () -> x.feed(0, 0, 0, 0, 0), NONE);
        due("the tape of 300", x.text(), 0);
    }

    private void blanks() {
        edges.sentence("TOKENS, blanks (32, 10) aside");
        sound(" \n \n");
        sound("\n\nprice\n\n1\n+ 2 ; \n");
        fault("\tprice 1;", 1, 0);
        fault("price\t1;", 1, 5);
        fault("price 1\r;", 1, 7);
        fault("price 1;\u000b", 1, 8);
        fault("price 1;\u001f", 1, 8);
        fault("price 1;!", 1, 8);
        fault("price 1;\u0000", 1, 8);
        fault("price 1;\u00a0", 1, 8);
        fault("pri ce 1;", 1, 0);
        fault("price 1 0;", 1, 8);
    }

    private void letters() {
        edges.sentence("letters a .. z, A .. Z one behind the other (one TOKEN)");
        // A row of letters is one token: its fault is at its first, one that is no letter begins another.
        for (char letter : new char[] {'a', 'z', 'A', 'Z'}) {
            fault("price 1;x" + letter + " ", 1, 8);
            fault("price" + letter + " 1;", 1, 0);
        }
        for (char other : new char[] {'`', '{', '@', '[', '_', '.', (char) 225, (char) 193}) {
            fault("price" + other + "1;", 1, 5);
        }
        fault("PRICE 1;", 1, 0);
        fault("pricE 1;", 1, 0);
        fault("price houseinch;", 1, 6);
        sound("price1;burns2;");
    }

    private void everyLetterCounts() {
        edges.sentence("price SUM ; or burns SUM ; or tears SUM ; or out SUM ; (each once) or buy NUMBER of NUMBER for NUMBER ;");
        String[] sums = {"price", "burns", "tears", "out"};
        String[] deeds = {"light", "burn", "moths"};
        String[] names = {"house", "draught", "candle", "thick", "length", "inch", "wax", "debt"};
        for (String word : sums) {
            spoilt("", word, " 1;");
        }
        for (String word : deeds) {
            spoilt("", word, " 1;");
        }
        for (String word : names) {
            spoilt("price ", word, ";");
        }
        spoilt("", "buy", " 1 of 2 for 3;");
        spoilt("buy 1 ", "of", " 2 for 3;");
        spoilt("buy 1 of 2 ", "for", " 3;");
    }

    /** The text is sound, but not with another letter at any place of the word, one more, or one less. */
    private void spoilt(String ahead, String word, String behind) {
        sound(ahead + word + behind);
        for (int i = 0; i < word.length(); i++) {
            fault(ahead + word.substring(0, i) + "q" + word.substring(i + 1) + behind, 1, ahead.length());
        }
        fault(ahead + word + "q" + behind, 1, ahead.length());
        fault(ahead + "q" + word + behind, 1, ahead.length());
        fault(ahead + word.substring(1) + behind, 1, ahead.length());
    }

    private void digits() {
        edges.sentence("digits likewise (NUMBERS, 0 .. 9999)");
        due("0 and 9 are digits", law("tears 09;", 2), 9);
        due("one token", law("tears 27;", 2), 27);
        fault("tears 9:;", 1, 7);
        fault("tears 9.5;", 1, 7);
        fault("tears \u00b2;", 1, 6);
        fault("tears 1 2;", 1, 8);
        due("letters end them", law("tears 1*inch;", 2), 2);
        fault("tears 1inch;", 1, 7);
    }

    private void numbers() {
        edges.sentence("NUMBERS, 0 .. 9999");
        due("the least", law("tears 0;", 2), 0);
        due("the most", law("tears 9999 - 9900;", 2), 99);
        fault("tears 10000;", 2, 6);
        fault("tears 4294967296;", 2, 6);
        fault("tears 18446744073709551617;", 2, 6);
        fault("tears " + "9".repeat(293) + ";", 2, 6);
        due("zeros ahead of it", law("tears " + "0".repeat(280) + "7;", 2), 7);
    }

    private void signs() {
        edges.sentence("<= >= < > = # + - * / ( ) ; (the longest)");
        sound("price (1+2)*3/4-5;");
        for (String sign : new String[] {"<=", ">=", "<", ">", "=", "#"}) {
            fault("price 1" + sign + "2;", 1, 7);
            fault(sign, 1, 0);
        }
        for (String none : new String[] {"!", "\"", "$", "%", "&", "'", ",", ".", ":", "?", "^", "|", "~"}) {
            fault("price 1" + none + "2;", 1, 7);
        }
    }

    private void clausesMany() {
        edges.sentence("{CLAUSE}, 24 at most");
        sound("");
        sound("light 0;");
        sound("light 0;".repeat(24));
        sound("price 1;burns 1;tears 1;out 1;" + "moths 1;".repeat(20));
        fault("light 0;".repeat(25), 6, 192);
        CandleEnds x = new CandleEnds();
        x.house(0, 0);
        Tape.tell(x, "moths 1;".repeat(23) + "moths 31;");
        due("24 with a fault", x.fault(0), 2);
        due("24", Tape.tell(x, "moths 1;".repeat(24)), 0);
        due("the 24th is played, too", x.played(0), NONE);
        due("24 steps", x.about(5), 24);
    }

    private void eachOnce() {
        edges.sentence("price SUM ; or burns SUM ; or tears SUM ; or out SUM ; (each once)");
        sound("price 1;burns 1;tears 1;out 1;");
        sound("out 1;tears 1;burns 1;price 1;");
        for (String law : new String[] {"price", "burns", "tears", "out"}) {
            fault(law + " 1;" + law + " 1;", 4, law.length() + 3);
            fault(law + ";", 1, law.length());
            fault(law, 1, law.length());
            fault(law + " 1", 1, law.length() + 2);
        }
    }

    private void buyNumbers() {
        edges.sentence("buy NUMBER of NUMBER for NUMBER ; (INCH, CANDLE, HOUSE)");
        sound("buy 0 of 0 for 0;");
        sound("buy 11 of 5 for 7;");
        fault("buy 12 of 5 for 7;", 2, 4);
        fault("buy 11 of 6 for 7;", 2, 10);
        fault("buy 11 of 5 for 8;", 2, 16);
        String whole = "buy 0 of 0 for 0;";
        for (int bytes : new int[] {3, 5, 8, 10, 14, 16}) {
            fault(whole.substring(0, bytes), 1, bytes);
        }
        CandleEnds x = Isles.of(9, 0, 0, 0);
        x.candle(1, 1);
        x.candle(1, 1);
        x.candle(2, 6);
        Tape.tell(x, "buy 5 of 2 for 1;");
        due("inch, candle, house", x.played(0), NONE);
        due("its owner", x.candleOf(2, 15), 1);
    }

    private void candleNumbers() {
        edges.sentence("light NUMBER ; or burn NUMBER ; (CANDLES)");
        sound("light 0;light 5;burn 0;burn 5;");
        fault("light 6;", 2, 6);
        fault("burn 6;", 2, 5);
        fault("light;", 1, 5);
        fault("burn;", 1, 4);
        fault("light -0;", 1, 6);
        fault("burn 0 0;", 1, 7);
    }

    private void mothsNumbers() {
        edges.sentence("or moths NUMBER ;");
        sound("moths 1;moths 30;");
        fault("moths 0;", 2, 6);
        fault("moths 31;", 2, 6);
        fault("moths;", 1, 5);
        fault("moths (1);", 1, 6);
    }

    private void sumParts() {
        edges.sentence("SUM: PRODUCT {+ or - PRODUCT}. PRODUCT: ONE {* or / ONE}");
        sum("7", 7);
        sum("1+2-3+4", 4);
        sum("2*9/3*2", 12);
        sum("1+2*3-8/4", 5);
        fault("price +1;", 1, 6);
        fault("price *1;", 1, 6);
        fault("price /1;", 1, 6);
        fault("price 1+;", 1, 8);
        fault("price 1-;", 1, 8);
        fault("price 1*;", 1, 8);
        fault("price 1/;", 1, 8);
        fault("price 1+*1;", 1, 8);
    }

    private void ones() {
        edges.sentence("ONE: NUMBER, NAME, ( SUM ), - ONE");
        sum("-(-3)", 3);
        sum("--3", 3);
        sum("-thick", -7);
        sum("(((inch)))", 2);
        fault("price ();", 1, 7);
        fault("price (1;", 1, 8);
        fault("price 1);", 1, 7);
        fault("price -;", 1, 7);
        fault("price (-);", 1, 8);
        fault("price (1))", 1, 9);
    }

    private void namesInAll() {
        edges.sentence("house, draught (of the HOUSE), candle, thick, length, inch in all");
        for (String law : new String[] {"price", "burns", "tears", "out"}) {
            sound(law + " house+draught+candle+thick+length+inch;");
        }
        CandleEnds x = Isles.of(5, 9, 8, 7, 6, 5, 4, 3, 2);
        for (int candle = 0; candle < 6; candle++) {
            x.candle(9 - candle, 7 + candle);
        }
        String[] names = {"house", "draught", "candle", "thick"};
        int[] last = {7, 2, 5, 4};
        int[] first = {0, 9, 0, 9};
        for (int i = 0; i < names.length; i++) {
            x.by(Tape.tell(x, "tears " + names[i] + ";"));
            due(names[i] + " of the last", x.says(7, 5, 11, 2), last[i]);
            due(names[i] + " of the first", x.says(0, 0, 0, 2), first[i]);
        }
        due("length of the longest", law("tears length;", 2), 12);
        due("inch", law("tears inch;", 2), 2);
    }

    private void namesInPrice() {
        edges.sentence("wax, debt (of the HOUSE) in price");
        sound("price wax+debt;");
        for (String law : new String[] {"burns", "tears", "out"}) {
            fault(law + " wax;", 5, law.length() + 1);
            fault(law + " 1+debt;", 5, law.length() + 3);
        }
        CandleEnds x = Isles.of(999, 0);
        Tape.ruledBy(x, "price wax - 950;");
        x.candle(1, 1);
        due("wax at the most", x.says(0, 0, 0, 0), 49);
        CandleEnds y = Isles.lit(9, 9);
        Isles.burn(y, 0, 2);
        y.by(Tape.tell(y, "price debt * 10 + wax;"));
        due("debt 9, no wax", y.says(0, 0, 0, 0), 90);
    }

    private void fromTheLeft() {
        edges.sentence("From the left");
        sum("10-3-2", 5);
        sum("10-3+2", 9);
        sum("20/3/2", 3);
        sum("7/2*2", 6);
        sum("2*7/2", 7);
        sum("9/2*2+1", 9);
        sum("-7+2", -5);
        sum("-2*3", -6);
    }

    private void towardsZero() {
        edges.sentence("/ cuts towards 0");
        sum("7/2", 3);
        sum("-7/2", -3);
        sum("7/-2", -3);
        sum("-7/-2", 3);
        sum("1/2", 0);
        sum("-1/2", 0);
        sum("(0-9)/10", 0);
        sum("9999/9999", 1);
        sum("9998/9999", 0);
    }

    private void byZero() {
        edges.sentence("by 0 it is 0");
        sum("5/0", 0);
        sum("-5/0", 0);
        sum("0/0", 0);
        sum("9/0+4", 4);
        sum("9/(inch-2)", 0);
        sum("9/(inch-2)*5+1", 1);
        sum("9999*9999/0", 0);
        sum("9/-0", 0);
    }

    private void aboveMillion() {
        edges.sentence("what is above 1000000");
        sum("1000*1000-9999*100-60", 40);
        sum("1000*1000+1-9999*100-60", 40);
        sum("1000*1000-1-9999*100-60", 39);
        sum("9999*9999-9999*100-60", 40);
        sum("9999*100+100-9999*100-60", 40);
        sum("9999*100+101-9999*100-60", 40);
        sum("9999*100+99-9999*100-60", 39);
        sum("9999*9999*9999/9999/10", 10);
        sum("-9999*-9999/9999/10", 10);
        sum("0-(0-9999*9999)-9999*100-60", 40);
    }

    private void belowMillion() {
        edges.sentence("(below the same less) is that");
        sum("9999*100-1000*1000+60", -40);
        sum("0-1000*1000-1+9999*100+60", -40);
        sum("1-1000*1000+9999*100+60", -39);
        sum("-9999*9999+9999*100+60", -40);
        sum("9999*-9999+9999*100+60", -40);
        sum("0-9999*9999+9999*100+60", -40);
        sum("-1000*1000*9999+9999*100+60", -40);
    }

    private void atEachStep() {
        edges.sentence("is that, at each step");
        sum("9999*9999/9999-60", 40);
        sum("9999*9999/1000/100", 10);
        sum("(9999*100+9999)/1000/100", 10);
        sum("9999*9999-9999*9999", 0);
        sum("9999*9999+9999*9999-9999*100-99", 1);
        due("two great ones one behind the other", law("price 9999*9999+1-9999*9999+7;", 0), 7);
        due("a great price", law("price 9999*9999;", 0), 99);
        due("a price far below", law("price -9999*9999;", 0), 0);
    }

    private void firstFault() {
        edges.sentence("FAULTS, the first as TOKENS are come to");
        fault("price 10000;light 9;", 2, 6);
        fault("light 9;price (((((((((1;", 2, 6);
        fault("price 1;price 1;$", 4, 8);
        fault("burns wax;burns 10000;", 5, 6);
        fault("price ( $ 10000;", 1, 8);
        fault("price 1 $ ;price", 1, 8);
        fault("moths 31", 2, 6);
    }

    private void atTheFirstByte() {
        edges.sentence("at the TOKEN's first byte (of the end at the length)");
        fault("price  nothing;", 1, 7);
        fault("\n \nlight 1234;", 2, 9);
        fault("price", 1, 5);
        fault("price ", 1, 6);
        fault("price   \n", 1, 9);
        fault("price " + "1+".repeat(147), 1, 300);
        fault("burn 0" + " ".repeat(294), 1, 300);
        fault(" ".repeat(299) + ";", 1, 299);
        fault(" ".repeat(299) + "$", 1, 299);
    }

    private void leastOfOne() {
        edges.sentence("of one the least");
        fault("10000", 1, 0);
        fault("price 1 10000;", 1, 8);
        fault("buy 0 10000", 1, 6);
        fault("price price", 1, 6);
        fault("price 1;burns price;", 1, 14);
        fault("light wax;", 1, 6);
        fault("burns 1 wax;", 1, 8);
        fault("price ((((((((1(", 1, 15);
        fault("price 1;" + "burn 0;".repeat(23) + "price", 4, 169);
        fault("burn 0;".repeat(24) + "10000", 1, 168);
        fault("burn 0;".repeat(24) + "wax", 1, 168);
    }

    private void faultOne() {
        edges.sentence("1 it can't stand there, or is none");
        fault("$", 1, 0);
        fault(";", 1, 0);
        fault("1", 1, 0);
        fault("price 1;;", 1, 8);
        fault("price $;", 1, 6);
        fault("price 1 of 2;", 1, 8);
        fault("buy 0 for 0;", 1, 6);
        fault("buy 0 of 0 of 0;", 1, 11);
        fault("buy 0 of 0 for 0 0;", 1, 17);
        for (String word : new String[] {"price", "burns", "tears", "out", "buy", "light", "burn", "moths", "of", "for"}) {
            fault("price " + word + ";", 1, 6);
            fault("price 1 " + word + ";", 1, 8);
            fault("light " + word + ";", 1, 6);
        }
        for (String word : new String[] {"of", "for", "house", "draught", "candle", "thick", "length", "inch", "wax", "debt"}) {
            fault(word + " 1;", 1, 0);
            fault("price 1;" + word, 1, 8);
        }
        fault("\u00ff", 1, 0);
    }

    private void faultTwo() {
        edges.sentence("2 a NUMBER that isn't one of those told (above 9999; INCHES 0 .. 11, CANDLES 0 .. 5, HOUSES 0 .. 7,"
            + " of moths 1 .. 30)");
        for (String law : new String[] {"price", "burns", "tears", "out"}) {
            sound(law + " 9999;");
            fault(law + " 10000;", 2, law.length() + 1);
        }
        fault("price -10000;", 2, 7);
        fault("price (10000);", 2, 7);
        fault("price 1*10000;", 2, 8);
        fault("buy 10000", 2, 4);
        fault("buy 12", 2, 4);
        fault("buy 0 of 6", 2, 9);
        fault("buy 0 of 0 for 8", 2, 15);
        fault("light 10000", 2, 6);
        fault("moths 0", 2, 6);
        sound("buy 011 of 05 for 07;light 005;moths 030;moths 001;");
    }

    private void faultThree() {
        edges.sentence("3 the 9th of ( and - (of one ONE) that are open around one another (at it)");
        sound("price ((((((((1))))))));");
        sound("price --------1;");
        sound("price -(-(-(-(1))));");
        fault("price (((((((((1)))))))));", 3, 14);
        fault("price ---------1;", 3, 14);
        fault("price (-(-(-(-(", 3, 14);
        fault("price ((((((((-1))))))));", 3, 14);
        fault("price --------(1);", 3, 14);
        fault("price 1*(1+(1+(1+(1+(1+(1+(1+(1+(", 3, 32);
        sound("price ((((((((1-1-1))))))));");
        sound("price ((((((((1)-(1)))))))-1);");
        sound("price --------1---------1;");
        fault("price --------1----------1;", 3, 24);
        sound("price -1*-1*-1*-1*-1*-1*-1*-1*-1*-1;");
        sound("price (1)*(1)*(1)*(1)*(1)*(1)*(1)*(1)*(1)*(1);");
        sound("price -(1)+(--(---1));burns ((((((((1))))))));");
        String each = "1+1*(".repeat(8) + "1+2*3" + ")".repeat(8);
        due("eight deep, at each a sum and a product wait", law("tears " + each + ";", 2), 15);
        due("eight deep, less", law("tears 50-2*(" + "1-1*(".repeat(7) + "1-1*2" + ")".repeat(8) + ";", 2), 46);
        due("eight deep", law("tears 1+(1+(1+(1+(1+(1+(1+(1+(1+2*3)))))))) ;", 2), 15);
        due("eight signs", law("tears --------5;", 2), 5);
        due("seven signs", law("tears 50+-------5;", 2), 45);
    }

    private void faultFour() {
        edges.sentence("4 price, burns, tears, out for the second time (at it)");
        fault("price 1;burns 1;tears 1;out 1;price", 4, 30);
        fault("price 1;burns 1;tears 1;out 1;burns", 4, 30);
        fault("price 1;burns 1;tears 1;out 1;tears", 4, 30);
        fault("price 1;burns 1;tears 1;out 1;out", 4, 30);
        sound("buy 0 of 0 for 0;buy 0 of 0 for 0;light 0;light 0;burn 0;burn 0;moths 1;moths 1;");
        CandleEnds x = new CandleEnds();
        Tape.tell(x, "price 1;");
        due("in another text it is the first", Tape.tell(x, "price 2;"), 1);
        Tape.tell(x, "out 1; out 1;");
        due("a text with a fault leaves nothing", Tape.tell(x, "out 2;"), 2);
        for (int i = 0; i < 4; i++) {
            Tape.tell(x, "out 3;burns 3;price " + "1+".repeat(120) + "(");
        }
        Tape.tell(x, "out 9;price 1+-1 $");
        due("however long", Tape.tell(x, "tears 4+5;moths 1;"), 3);
        x.house(2, 0);
        x.candle(3, 1);
        x.by(3);
        int[] says = {3, 30, 9, 2};
        for (int what = 0; what < 4; what++) {
            due("the law behind it, " + what, x.says(0, 0, 0, what), says[what]);
        }
        due("its clauses", x.played(3), NONE);
        due("the one step", x.about(5), 1);
    }

    private void faultFive() {
        edges.sentence("5 a NAME that isn't of that CLAUSE (at it)");
        fault("burns wax;", 5, 6);
        fault("tears debt;", 5, 6);
        fault("out -(1*wax);", 5, 8);
        fault("price wax;burns wax;", 5, 16);
        fault("burns 1;tears thick+debt;", 5, 20);
        sound("burns 1;price wax;");
    }

    private void faultSix() {
        edges.sentence("6 the 25th CLAUSE (at its first TOKEN)");
        String full = "moths 9;".repeat(24);
        sound(full);
        fault(full + "moths 9;", 6, 192);
        fault(full + "\n price 1;", 6, 194);
        fault(full + "buy", 6, 192);
        fault(full + "light 9", 6, 192);
        fault("price 1;burns 1;tears 1;" + "moths 9;".repeat(21) + "out wax;", 6, 192);
    }

    private void theTextAtFirst() {
        edges.sentence("THE TEXT (told; at first none) rules");
        CandleEnds x = Isles.of(5, 4);
        x.candle(8, 1);
        due("at first", x.about(4), NONE);
        due("price without", x.says(0, 0, 0, 0), 8);
        Tape.tell(x, "price 1;");
        due("it is not told by being read", x.about(4), NONE);
        due("price yet", x.says(0, 0, 0, 0), 8);
        x.by(0);
        due("it rules", x.says(0, 0, 0, 0), 1);
        x.by(NONE);
        due("none again", x.says(0, 0, 0, 0), 8);
    }

    private void priceBounds() {
        edges.sentence("price: 0 at least, 99 at most; without: THICK");
        due("-1", law("price -1;", 0), 0);
        due("0", law("price 0;", 0), 0);
        due("1", law("price 1;", 0), 1);
        due("98", law("price 98;", 0), 98);
        due("99", law("price 99;", 0), 99);
        due("100", law("price 100;", 0), 99);
        due("without", law("burns 1;tears 1;out 1;", 0), 7);
    }

    private void burnsBounds() {
        edges.sentence("burns: 1 at least, 99 at most; without: 10 times THICK");
        due("-1", law("burns -1;", 1), 1);
        due("0", law("burns 0;", 1), 1);
        due("1", law("burns 1;", 1), 1);
        due("2", law("burns 2;", 1), 2);
        due("99", law("burns 99;", 1), 99);
        due("100", law("burns 100;", 1), 99);
        due("without", law("price 1;tears 1;out 1;", 1), 70);
        CandleEnds x = Isles.of(5, 4);
        x.candle(9, 1);
        x.candle(1, 1);
        due("of the thickest", x.says(0, 0, 0, 1), 90);
        due("of the thinnest", x.says(0, 1, 0, 1), 10);
    }

    private void tearsBounds() {
        edges.sentence("tears: 0 at least, 99 at most; without: 0");
        due("-1", law("tears -1;", 2), 0);
        due("0", law("tears 0;", 2), 0);
        due("1", law("tears 1;", 2), 1);
        due("99", law("tears 99;", 2), 99);
        due("100", law("tears 100;", 2), 99);
        due("without", law("price 1;burns 1;out 1;", 2), 0);
    }

    private void outBounds() {
        edges.sentence("out: 0 at least, 10 at most; without: DRAUGHT");
        due("-1", law("out -1;", 3), 0);
        due("0", law("out 0;", 3), 0);
        due("9", law("out 9;", 3), 9);
        due("10", law("out 10;", 3), 10);
        due("11", law("out 11;", 3), 10);
        due("without", law("price 1;burns 1;tears 1;", 3), 3);
    }

    private void playedInOrder() {
        edges.sentence("PLAYED by a TEXT: its buy, light, burn and moths clauses, in their order, as by hand");
        CandleEnds x = Isles.of(9, 0);
        x.candle(1, 2);
        due("nothing to play", x.played(Tape.tell(x, "")), NONE);
        due("laws alone", x.played(Tape.tell(x, "price 5;out 10;")), NONE);
        due("no step", x.about(5), 0);
        due("they don't rule", x.houseOf(0, 1), 9);
        Tape.tell(x, "buy 0 of 0 for 0;light 0;burn 0;burn 0;moths 3;");
        due("all is done", x.played(2), NONE);
        due("each is a step", x.about(5), 5);
        due("taken back one by one", x.undo(), 4);
        due("the moths took one", x.houseOf(0, 2), 1);
    }

    private void playedByNumbers() {
        edges.sentence("its buy, light, burn and moths clauses, in their order, as by hand");
        CandleEnds x = Isles.of(9, 0, 0, 0, 0, 0, 0, 0, 0);
        for (int i = 0; i < 6; i++) {
            x.candle(1, 12);
        }
        Tape.tell(x, "buy 11 of 5 for 7;buy 0 of 5 for 6;light 5;burn 5;buy 0 of 3 for 2;light 3;burn 3;moths 30;");
        due("all is done", x.played(0), NONE);
        due("the last inch of the last candle has the last house", x.candleOf(5, 21), 7);
        due("the last candle is where", x.candleOf(5, 3), 6);
        due("its next", x.candleOf(5, 4), 1);
        due("candle 3 is where", x.candleOf(3, 3), 2);
        due("its next", x.candleOf(3, 4), 1);
        due("no other is lit", x.about(11), 2);
        int drawn = 5;
        for (int i = 0; i < 30; i++) {
            drawn = (drawn * 179 + 83) % 30011;
        }
        due("thirty draws", x.about(2), drawn);
        due("lit already", x.played(Tape.tell(x, "price 1;burn 5;light 5;")), 2);
        due("burnt once more", x.candleOf(5, 4), 2);
    }

    private void playedToTheEnd() {
        edges.sentence("one that can't be ends it: its number among all CLAUSES (from 0)");
        CandleEnds x = Isles.of(9, 0);
        x.candle(1, 1);
        due("the first", x.played(Tape.tell(x, "light 0;moths 1;")), 0);
        due("nothing was done", x.about(5), 0);
        due("behind laws", x.played(Tape.tell(x, "price 1;burns 1;burn 0;moths 1;")), 2);
        due("the last of 24", x.played(Tape.tell(x, "price 1;" + "moths 1;".repeat(22) + "burn 5;")), 23);
        due("22 were done", x.about(5), 22);
        due("a house that isn't told", x.played(Tape.tell(x, "buy 0 of 0 for 7;")), 0);
    }

    private void playedStays() {
        edges.sentence("what was done stays");
        CandleEnds x = Isles.of(3, 0);
        x.candle(2, 3);
        Tape.tell(x, "buy 0 of 0 for 0;buy 1 of 0 for 0;light 0;");
        due("no wax for the second", x.played(0), 1);
        due("the first stays", x.candleOf(0, 10), 0);
        due("its wax", x.houseOf(0, 1), 1);
        due("the third isn't done", x.candleOf(0, 2), 0);
        due("one step", x.about(5), 1);
        due("played again the first can't be", x.played(0), 0);
    }
}
