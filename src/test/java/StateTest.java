/** Promises 1 to 9, 16 to 20 and 29 to 31: what is told, done, taken back and kept. */
public final class StateTest {
    private static final int NONE = CandleEnds.NONE;
    private static final int OTHER = -2;
    private static final Check CHECK = new Check();

    private StateTest() {
    }

    public static void main(String[] args) {
        promise1NewObject();
        promise2House();
        promise3Candle();
        promise4Seed();
        promise5Buy();
        promise5BuyByThePrice();
        promise6Light();
        promise6LightAgain();
        promise7Burn();
        promise7BurnOnDebt();
        promise7BurnByTheLaw();
        promise7HandedOn();
        promise8Repay();
        promise9Moths();
        promise16Undo();
        promise16UndoOfEachKind();
        promise16TheLatestThirty();
        promise17HouseOf();
        promise18CandleOf();
        promise19Says();
        promise20Drip();
        promise29Image();
        promise30Back();
        promise30BackToAll();
        promise31About();
        CHECK.close("StateTest");
    }

    private static void due(String what, long got, long want) {
        CHECK.due(what, got, want);
    }

    /** Houses of these draughts with 100 WAX each. */
    private static CandleEnds island(int... draughts) {
        CandleEnds x = new CandleEnds();
        for (int draught : draughts) {
            x.house(draught, 100);
        }
        return x;
    }

    private static void promise1NewObject() {
        CandleEnds x = new CandleEnds();
        due("1: NONE", NONE, -1);
        int[] first = {0, 0, 5, 0, NONE, 0, 0};
        for (int what = 0; what < first.length; what++) {
            due("1: about " + what, x.about(what), first[what]);
        }
        for (int what = 10; what < 14; what++) {
            due("1: about " + what, x.about(what), 0);
        }
        due("1: no drips", x.drip(NONE, 0), 0);
        due("1: no step", x.undo(), NONE);
        x.house(1, 10);
        x.candle(1, 1);
        x.seed(7);
        x.buy(0, 0, 0);
        due("1: the image is the new object", x.back(), 0);
        due("1: no houses again", x.about(0), 0);
        due("1: no candles again", x.about(1), 0);
        due("1: X again", x.about(2), 5);
        due("1: no steps again", x.about(5), 0);
    }

    private static void promise2House() {
        CandleEnds x = new CandleEnds();
        due("2: draught -1", x.house(-1, 0), NONE);
        due("2: draught 10", x.house(10, 0), NONE);
        due("2: wax -1", x.house(0, -1), NONE);
        due("2: wax 1000", x.house(0, 1000), NONE);
        due("2: least", x.house(0, 0), 0);
        due("2: most", x.house(9, 999), 1);
        due("2: its wax", x.houseOf(1, 1), 999);
        for (int i = 2; i < 8; i++) {
            due("2: house " + i, x.house(i, i), i);
        }
        due("2: the ninth", x.house(1, 1), NONE);
        due("2: eight stay", x.about(0), 8);
        due("2: no step", x.about(5), 0);
    }

    private static void promise3Candle() {
        CandleEnds x = new CandleEnds();
        due("3: thick 0", x.candle(0, 1), NONE);
        due("3: thick 10", x.candle(10, 1), NONE);
        due("3: length 0", x.candle(1, 0), NONE);
        due("3: length 13", x.candle(1, 13), NONE);
        due("3: least", x.candle(1, 1), 0);
        due("3: most", x.candle(9, 12), 1);
        due("3: last inch", x.candleOf(1, 21), NONE);
        due("3: inch behind it", x.candleOf(1, 22), OTHER);
        for (int i = 2; i < 6; i++) {
            due("3: candle " + i, x.candle(i, i), i);
        }
        due("3: the seventh", x.candle(1, 1), NONE);
        due("3: six stay", x.about(1), 6);
    }

    private static void promise4Seed() {
        CandleEnds x = new CandleEnds();
        CHECK.due("4: seed 9999", x.seed(9999), true);
        due("4: X", x.about(2), 40001);
        CHECK.due("4: seed -1", x.seed(-1), false);
        CHECK.due("4: seed 10000", x.seed(10000), false);
        due("4: X stays", x.about(2), 40001);
        CHECK.due("4: seed 0", x.seed(0), true);
        due("4: X is 5", x.about(2), 5);
        CHECK.due("4: seed 1", x.seed(1), true);
        due("4: X is 9", x.about(2), 9);
        due("4: no step", x.about(5), 0);
        x.house(0, 0);
        x.moths(1);
        due("4: X behind a draw", x.about(2), 9 * 179 + 83);
        x.seed(9999);
        x.moths(1);
        due("4: a great X behind a draw", x.about(2), (40001 * 179 + 83) % 30011);
    }

    private static void promise5Buy() {
        CandleEnds x = island(0, 0);
        x.house(0, 3);
        x.candle(4, 3);
        due("5: house -1", x.buy(-1, 0, 0), NONE);
        due("5: house 3", x.buy(3, 0, 0), NONE);
        due("5: candle 1", x.buy(0, 1, 0), NONE);
        due("5: inch 3", x.buy(0, 0, 3), NONE);
        due("5: inch -1", x.buy(0, 0, -1), NONE);
        due("5: not wax enough", x.buy(2, 0, 0), NONE);
        due("5: nothing was a step", x.about(5), 0);
        due("5: bought", x.buy(0, 0, 0), 96);
        due("5: its owner", x.candleOf(0, 10), 0);
        due("5: owned by another", x.buy(1, 0, 0), NONE);
        due("5: owned by itself", x.buy(0, 0, 0), NONE);
        x.light(0);
        due("5: the inch that burns next of a lit one", x.buy(1, 0, 1), 96);
        x.burn(0);
        x.burn(0);
        due("5: of a lit one behind others", x.buy(1, 0, 2), 92);
        CandleEnds y = island(0, 0);
        y.candle(4, 3);
        y.buy(0, 0, 0);
        y.light(0);
        y.burn(0);
        y.burn(0);
        due("5: a burnt one without owner", y.buy(1, 0, 1), NONE);
        due("5: the next one", y.buy(1, 0, 2), 96);
        due("5: it stays where it is", y.candleOf(0, 3), 0);
    }

    private static void promise5BuyByThePrice() {
        CandleEnds x = island(0);
        x.house(0, 0);
        x.candle(9, 4);
        Tape.ruledBy(x, "price wax - inch * 50;");
        due("5: all its wax", x.buy(0, 0, 0), 1);
        due("5: for nothing", x.buy(1, 0, 1), 0);
        due("5: the owner without wax", x.candleOf(0, 11), 1);
        x.house(0, 120);
        due("5: 99 at most", x.says(2, 0, 2, 0), 20);
        due("5: as wax is now", x.buy(2, 0, 2), 100);
    }

    private static void promise6Light() {
        CandleEnds x = island(0, 0);
        x.candle(1, 2);
        due("6: candle -1", x.light(-1), NONE);
        due("6: candle 1", x.light(1), NONE);
        x.buy(0, 0, 1);
        due("6: inch 0 without owner", x.light(0), NONE);
        x.buy(1, 0, 0);
        due("6: lit", x.light(0), 1);
        due("6: state", x.candleOf(0, 2), 1);
        due("6: where", x.candleOf(0, 3), 1);
        due("6: it costs nothing", x.houseOf(1, 1), 99);
        due("6: it isn't drawn", x.about(2), 5);
        due("6: lit already", x.light(0), NONE);
        due("6: steps", x.about(5), 3);
        x.burn(0);
        x.burn(0);
        due("6: burnt", x.candleOf(0, 2), 3);
        due("6: a burnt one", x.light(0), NONE);
    }

    private static void promise6LightAgain() {
        CandleEnds x = island(0);
        x.house(9, 3);
        x.candle(2, 2);
        x.buy(0, 0, 0);
        x.buy(1, 0, 1);
        x.light(0);
        due("6: put out", x.burn(0), 2);
        due("6: lit where it is", x.light(0), 1);
        due("6: one wax less", x.houseOf(1, 1), 0);
        due("6: it is lit", x.candleOf(0, 2), 1);
        CandleEnds y = island(0);
        y.house(9, 2);
        y.candle(2, 2);
        y.buy(0, 0, 0);
        y.buy(1, 0, 1);
        y.light(0);
        due("6: put out again", y.burn(0), 2);
        due("6: without wax", y.light(0), NONE);
        due("6: it stays out", y.candleOf(0, 2), 2);
        due("6: it is there", y.candleOf(0, 3), 1);
    }

    private static void promise7Burn() {
        CandleEnds x = island(3, 0);
        x.candle(4, 3);
        due("7: unlit", x.burn(0), NONE);
        due("7: candle 1", x.burn(1), NONE);
        due("7: candle -1", x.burn(-1), NONE);
        x.buy(0, 0, 0);
        x.buy(0, 0, 1);
        x.light(0);
        due("7: to the same owner", x.burn(0), 1);
        due("7: light", x.houseOf(0, 3), 40);
        due("7: next", x.candleOf(0, 4), 1);
        due("7: no draw", x.about(2), 5);
        due("7: to none", x.burn(0), 1);
        due("7: no draw again", x.about(2), 5);
        due("7: no debt for owned ones", x.houseOf(0, 2), 0);
        due("7: the last", x.burn(0), 3);
        due("7: it stays where it was", x.candleOf(0, 3), 0);
        due("7: next is the length", x.candleOf(0, 4), 3);
        due("7: burnt", x.burn(0), NONE);
        due("7: steps", x.about(5), 6);
    }

    private static void promise7BurnOnDebt() {
        CandleEnds x = island(0, 0);
        x.candle(9, 12);
        x.candle(9, 12);
        Tape.ruledBy(x, "price inch * 99;");
        x.buy(0, 0, 0);
        x.buy(0, 1, 0);
        x.light(0);
        x.light(1);
        for (int i = 0; i < 12; i++) {
            x.burn(0);
            due("7: debt behind inch " + i, x.houseOf(0, 2), Math.min(999, 99 * i));
        }
        x.burn(1);
        x.burn(1);
        due("7: debt 999 at most", x.houseOf(0, 2), 999);
        due("7: light is minutes", x.houseOf(0, 3), 14 * 90);
    }

    private static void promise7BurnByTheLaw() {
        CandleEnds x = new CandleEnds();
        x.house(2, 990);
        x.candle(3, 4);
        Tape.ruledBy(x, "price debt + wax / 100 ; burns inch * 60 ; tears 7 + inch ;");
        x.buy(0, 0, 0);
        due("7: wax", x.houseOf(0, 1), 981);
        x.light(0);
        due("7: first", x.burn(0), 1);
        due("7: burns 1 at least", x.houseOf(0, 3), 1);
        due("7: tears", x.houseOf(0, 1), 988);
        x.burn(0);
        due("7: the price as ahead of it", x.houseOf(0, 2), 9);
        due("7: wax again", x.houseOf(0, 1), 996);
        x.burn(0);
        due("7: wax 999 at most", x.houseOf(0, 1), 999);
        due("7: debt by debt", x.houseOf(0, 2), 9 + 18);
        due("7: burns 99 at most", x.houseOf(0, 3), 1 + 60 + 99);
        due("7: the tears that fell", x.drip(2, 4), 9);
    }

    private static void promise7HandedOn() {
        CandleEnds x = island(0, 9, 8);
        x.candle(1, 4);
        x.buy(0, 0, 0);
        x.buy(1, 0, 2);
        x.buy(2, 0, 3);
        x.light(0);
        due("7: burnt on where it is", x.burn(0), 1);
        due("7: nobody drew", x.about(2), 5);
        due("7: draw 5 below 9", x.burn(0), 2);
        due("7: where", x.candleOf(0, 3), 1);
        due("7: X", x.about(2), 978);
        due("7: one that is out", x.burn(0), NONE);
        x.light(0);
        due("7: draw 8 isn't below 8", x.burn(0), 1);
        due("7: X again", x.about(2), 25090);
        due("7: there", x.candleOf(0, 3), 2);
        Tape.ruledBy(x, "out 10 * (house = 1);");
        due("7: = is no sum", x.fault(0), 1);
        CandleEnds y = island(0, 0);
        y.candle(1, 3);
        Tape.ruledBy(y, "out 99;");
        y.buy(0, 0, 0);
        y.buy(1, 0, 1);
        y.seed(1);
        y.light(0);
        due("7: out 10 at most is sure", y.burn(0), 2);
        due("7: it is drawn all the same", y.about(2), 9 * 179 + 83);
    }

    private static void promise8Repay() {
        CandleEnds x = new CandleEnds();
        x.house(0, 6);
        x.house(0, 5);
        x.candle(5, 3);
        x.buy(0, 0, 0);
        x.light(0);
        x.burn(0);
        x.burn(0);
        Tape.ruledBy(x, "tears 3;");
        x.burn(0);
        due("8: debt", x.houseOf(0, 2), 10);
        due("8: wax", x.houseOf(0, 1), 4);
        due("8: house -1", x.repay(-1, 1), NONE);
        due("8: house 2", x.repay(2, 1), NONE);
        due("8: without debt", x.repay(1, 1), NONE);
        due("8: 0", x.repay(0, 0), NONE);
        due("8: -1", x.repay(0, -1), NONE);
        due("8: more than wax", x.repay(0, 5), NONE);
        due("8: repaid", x.repay(0, 3), 7);
        due("8: wax less", x.houseOf(0, 1), 1);
        due("8: the rest", x.repay(0, 1), 6);
        due("8: without wax", x.repay(0, 1), NONE);
        CandleEnds y = new CandleEnds();
        y.house(0, 50);
        y.candle(2, 2);
        y.buy(0, 0, 0);
        y.light(0);
        y.burn(0);
        y.burn(0);
        due("8: more than debt", y.repay(0, 3), NONE);
        due("8: all of it", y.repay(0, 2), 0);
    }

    private static void promise9Moths() {
        CandleEnds x = new CandleEnds();
        due("9: without houses", x.moths(1), NONE);
        x.house(0, 4);
        due("9: 0", x.moths(0), NONE);
        due("9: 31", x.moths(31), NONE);
        due("9: -1", x.moths(-1), NONE);
        due("9: no draw", x.about(2), 5);
        x.candle(1, 5);
        x.buy(0, 0, 0);
        x.light(0);
        for (int i = 0; i < 5; i++) {
            x.burn(0);
        }
        due("9: debt", x.houseOf(0, 2), 4);
        due("9: wax", x.houseOf(0, 1), 3);
        due("9: they take what there is", x.moths(30), 3);
        due("9: debt left", x.houseOf(0, 2), 1);
        due("9: no wax left", x.houseOf(0, 1), 0);
        due("9: nothing to take", x.moths(1), 0);
        due("9: it is a step", x.about(5), 9);
        CandleEnds y = island(0, 0, 0);
        y.candle(1, 3);
        y.buy(2, 0, 0);
        y.light(0);
        y.burn(0);
        y.burn(0);
        // X goes 5, 978, 25090, .. : by three 2, 0, 1.
        due("9: the drawn house alone", y.moths(1), 1);
        due("9: others have no debt", y.moths(2), 0);
        due("9: wax of the drawn", y.houseOf(2, 1), 98);
        due("9: debt of the drawn", y.houseOf(2, 2), 0);
    }

    private static void promise16Undo() {
        CandleEnds x = island(0);
        x.candle(3, 2);
        x.buy(0, 0, 0);
        x.light(0);
        x.house(5, 7);
        x.candle(2, 2);
        x.seed(100);
        x.buy(1, 1, 0);
        x.buy(1, 1, 1);
        due("16: a purchase", x.undo(), 3);
        due("16: no owner of inch 1", x.candleOf(1, 11), NONE);
        due("16: the owner of inch 0 stays", x.candleOf(1, 10), 1);
        due("16: the one ahead of it", x.undo(), 2);
        due("16: wax as told", x.houseOf(1, 1), 7);
        due("16: no owner", x.candleOf(1, 10), NONE);
        due("16: X is as ahead of it", x.about(2), 405);
        due("16: the lighting", x.undo(), 1);
        due("16: unlit", x.candleOf(0, 2), 0);
        due("16: nowhere", x.candleOf(0, 3), NONE);
        due("16: X as ahead of the lighting", x.about(2), 5);
        due("16: the first", x.undo(), 0);
        due("16: none", x.undo(), NONE);
        due("16: a house told since stays", x.houseOf(1, 0), 5);
        due("16: and its wax", x.houseOf(1, 1), 7);
        due("16: a candle told since stays", x.candleOf(1, 0), 2);
        due("16: wax is as at first", x.houseOf(0, 1), 100);
    }

    private static void promise16UndoOfEachKind() {
        CandleEnds x = island(0, 9);
        x.candle(2, 3);
        Tape.ruledBy(x, "tears 1;");
        x.buy(0, 0, 0);
        x.buy(1, 0, 2);
        x.light(0);
        x.burn(0);
        x.burn(0);
        due("16: out", x.candleOf(0, 2), 2);
        x.light(0);
        x.repay(0, 1);
        x.moths(1);
        due("16: the moths", x.undo(), 7);
        due("16: X", x.about(2), 978);
        due("16: repaid", x.undo(), 6);
        due("16: debt", x.houseOf(0, 2), 2);
        due("16: wax", x.houseOf(0, 1), 100);
        due("16: lit again", x.undo(), 5);
        due("16: it is out", x.candleOf(0, 2), 2);
        due("16: its wax", x.houseOf(1, 1), 98);
        due("16: burnt", x.undo(), 4);
        due("16: it was lit", x.candleOf(0, 2), 1);
        due("16: it was there", x.candleOf(0, 3), 0);
        due("16: next", x.candleOf(0, 4), 1);
        due("16: light", x.houseOf(0, 3), 20);
        due("16: no debt", x.houseOf(0, 2), 0);
        due("16: one drip", x.drip(NONE, 0), 1);
        due("16: X was 5", x.about(2), 5);
        due("16: the law stays", x.about(4), 0);
    }

    private static void promise16TheLatestThirty() {
        CandleEnds x = island(0);
        for (int i = 0; i < 35; i++) {
            x.moths(1);
            due("16: steps behind " + i, x.about(5), Math.min(30, i + 1));
        }
        for (int i = 29; i >= 0; i--) {
            due("16: yet " + i, x.undo(), i);
        }
        due("16: no more", x.undo(), NONE);
        int fifth = 5;
        for (int i = 0; i < 5; i++) {
            fifth = (fifth * 179 + 83) % 30011;
        }
        due("16: X behind the fifth", x.about(2), fifth);
    }

    private static void promise17HouseOf() {
        CandleEnds x = new CandleEnds();
        due("17: none", x.houseOf(0, 0), OTHER);
        x.house(4, 50);
        x.candle(6, 2);
        x.buy(0, 0, 0);
        x.light(0);
        x.burn(0);
        x.burn(0);
        int[] want = {4, 44, 6, 120};
        for (int what = 0; what < 4; what++) {
            due("17: what " + what, x.houseOf(0, what), want[what]);
        }
        due("17: what 4", x.houseOf(0, 4), OTHER);
        due("17: what -1", x.houseOf(0, -1), OTHER);
        due("17: house 1", x.houseOf(1, 0), OTHER);
        due("17: house -1", x.houseOf(-1, 0), OTHER);
    }

    private static void promise18CandleOf() {
        CandleEnds x = island(0);
        due("18: none", x.candleOf(0, 0), OTHER);
        x.candle(6, 2);
        x.buy(0, 0, 0);
        x.light(0);
        x.burn(0);
        int[] want = {6, 2, 1, 0, 1};
        for (int what = 0; what < 5; what++) {
            due("18: what " + what, x.candleOf(0, what), want[what]);
        }
        due("18: owner", x.candleOf(0, 10), 0);
        due("18: no owner", x.candleOf(0, 11), NONE);
        due("18: inch 2", x.candleOf(0, 12), OTHER);
        due("18: what 5", x.candleOf(0, 5), OTHER);
        due("18: what 9", x.candleOf(0, 9), OTHER);
        due("18: what -1", x.candleOf(0, -1), OTHER);
        due("18: candle 1", x.candleOf(1, 0), OTHER);
        due("18: candle -1", x.candleOf(-1, 0), OTHER);
    }

    private static void promise19Says() {
        CandleEnds x = island(7, 2);
        x.candle(9, 2);
        x.candle(4, 2);
        int[] want = {4, 40, 0, 2};
        for (int what = 0; what < 4; what++) {
            due("19: what " + what, x.says(1, 1, 1, what), want[what]);
        }
        due("19: what 4", x.says(1, 1, 1, 4), OTHER);
        due("19: what -1", x.says(1, 1, 1, -1), OTHER);
        due("19: house 2", x.says(2, 1, 1, 0), OTHER);
        due("19: candle 2", x.says(1, 2, 1, 0), OTHER);
        due("19: inch 2", x.says(1, 1, 2, 0), OTHER);
        due("19: inch -1", x.says(1, 1, -1, 0), OTHER);
        Tape.ruledBy(x, "price 100;burns 100;tears 100;out 100;");
        int[] most = {99, 99, 99, 10};
        Tape.tell(x, "price -1;burns -1;tears -1;out -1;");
        int[] least = {0, 1, 0, 0};
        for (int what = 0; what < 4; what++) {
            x.by(0);
            due("19: at most " + what, x.says(1, 1, 1, what), most[what]);
            x.by(1);
            due("19: at least " + what, x.says(1, 1, 1, what), least[what]);
        }
    }

    private static void promise20Drip() {
        CandleEnds x = island(0, 0);
        x.candle(1, 1);
        x.candle(3, 2);
        Tape.ruledBy(x, "tears inch * 2 + house;");
        x.buy(1, 1, 0);
        x.buy(0, 1, 1);
        x.light(1);
        due("20: none yet", x.drip(NONE, 0), 0);
        due("20: not there", x.drip(0, 0), OTHER);
        x.burn(1);
        x.burn(1);
        int[][] want = {{1, 0, 1, 30, 1}, {1, 1, 0, 30, 2}};
        for (int i = 0; i < 2; i++) {
            for (int what = 0; what < 5; what++) {
                due("20: drip " + i + " " + what, x.drip(i, what), want[i][what]);
            }
        }
        due("20: how many", x.drip(NONE, 0), 2);
        due("20: what 5", x.drip(0, 5), OTHER);
        due("20: what -1", x.drip(0, -1), OTHER);
        due("20: i 2", x.drip(2, 0), OTHER);
        due("20: i -2", x.drip(-2, 0), OTHER);
        CandleEnds y = island(0);
        for (int c = 0; c < 6; c++) {
            y.candle(1, 12);
            y.buy(0, c, 0);
            y.light(c);
            for (int i = 0; i < 12; i++) {
                y.burn(c);
            }
        }
        due("20: 72 at most", y.drip(NONE, 0), 72);
        due("20: the last", y.drip(71, 1), 11);
    }

    private static void promise29Image() {
        CandleEnds x = island(0, 0);
        x.candle(2, 3);
        due("29: no drips", x.image(), 0);
        x.buy(0, 0, 0);
        x.light(0);
        x.burn(0);
        due("29: one drip", x.image(), 1);
        x.burn(0);
        due("29: back to the later", x.back(), 1);
        due("29: state", x.candleOf(0, 4), 1);
        due("29: steps", x.about(5), 3);
    }

    private static void promise30Back() {
        CandleEnds x = island(0, 0);
        x.candle(2, 3);
        Tape.ruledBy(x, "tears 1;");
        x.buy(0, 0, 0);
        x.light(0);
        x.burn(0);
        x.burn(0);
        x.seed(3);
        x.image();
        x.house(1, 1);
        x.candle(1, 1);
        Tape.tell(x, "tears 2;");
        x.by(1);
        x.undo();
        x.undo();
        x.by(NONE);
        x.burn(0);
        due("30: another drip", x.drip(0, 4), 0);
        Tape.put(x, "price");
        x.text();
        Tape.put(x, "tape");
        due("30: back", x.back(), 2);
        due("30: houses", x.about(0), 2);
        due("30: candles", x.about(1), 1);
        due("30: X", x.about(2), 17);
        due("30: texts", x.about(3), 1);
        due("30: the text", x.about(4), 0);
        due("30: steps", x.about(5), 4);
        due("30: the tape stays", x.about(6), 4);
        due("30: the fault stays", x.fault(0), 1);
        due("30: the drip", x.drip(0, 4), 1);
        due("30: the law", x.says(0, 0, 0, 2), 1);
        due("30: a step taken back", x.undo(), 3);
        due("30: drips", x.drip(NONE, 0), 1);
        due("30: next", x.candleOf(0, 4), 1);
        due("30: again", x.back(), 2);
        due("30: next again", x.candleOf(0, 4), 2);
        due("30: a gone text can't be played", x.played(1), OTHER);
        due("30: a new text comes there", x.text(), NONE);
        due("30: a new text", Tape.tell(x, "tears 5;"), 1);
    }

    private static void promise30BackToAll() {
        CandleEnds x = island(0, 9);
        x.candle(2, 4);
        x.candle(3, 2);
        x.buy(0, 0, 0);
        x.buy(1, 0, 2);
        x.buy(0, 1, 1);
        x.light(0);
        x.burn(0);
        x.burn(0);
        x.image();
        x.light(0);
        x.burn(0);
        x.buy(1, 1, 0);
        x.light(1);
        for (int i = 0; i < 30; i++) {
            x.moths(1);
        }
        CandleEnds y = new CandleEnds();
        y.image();
        for (int i = 0; i < 8; i++) {
            y.house(i, 10 * i);
        }
        y.candle(9, 12);
        y.back();
        y.house(6, 60);
        y.candle(4, 5);
        due("30: told anew", y.houseOf(0, 0), 6);
        due("30: its thickness", y.candleOf(0, 0), 4);
        due("30: back", x.back(), 2);
        int[] house0 = {0, 95, 2, 40};
        int[] house1 = {9, 98, 0, 0};
        for (int what = 0; what < 4; what++) {
            due("30: house 0, " + what, x.houseOf(0, what), house0[what]);
            due("30: house 1, " + what, x.houseOf(1, what), house1[what]);
        }
        int[] whats = {0, 1, 2, 3, 4, 10, 11, 12, 13};
        int[] candle0 = {2, 4, 2, 1, 2, 0, NONE, 1, NONE};
        int[] candle1 = {3, 2, 0, NONE, 0, NONE, 0};
        for (int i = 0; i < whats.length; i++) {
            due("30: candle 0, " + whats[i], x.candleOf(0, whats[i]), candle0[i]);
            due("30: candle 1, " + whats[i], x.candleOf(1, whats[i]), i < candle1.length ? candle1[i] : OTHER);
        }
        for (int i = 5; i >= 0; i--) {
            due("30: steps yet", x.undo(), i);
        }
        due("30: wax as at first", x.houseOf(0, 1), 100);
        due("30: no owner", x.candleOf(0, 12), NONE);
        due("30: nowhere", x.candleOf(0, 3), NONE);
        x.house(1, 2);
        x.candle(1, 2);
        x.back();
        due("30: the candle told since is gone", x.candleOf(2, 0), OTHER);
        due("30: the house told since is gone", x.houseOf(2, 0), OTHER);
        x.candle(7, 3);
        x.house(3, 33);
        int[] told = {7, 3, 0, NONE, 0};
        for (int what = 0; what < told.length; what++) {
            due("30: a candle told anew, " + what, x.candleOf(2, what), told[what]);
        }
        int[] anew = {3, 33, 0, 0};
        for (int what = 0; what < anew.length; what++) {
            due("30: a house told anew, " + what, x.houseOf(2, what), anew[what]);
        }
    }

    private static void promise31About() {
        CandleEnds x = island(0, 9);
        for (int i = 0; i < 4; i++) {
            x.candle(1, 2);
            x.buy(0, i, 0);
        }
        x.buy(1, 3, 1);
        x.light(1);
        x.light(2);
        x.light(3);
        x.burn(2);
        x.burn(2);
        x.burn(3);
        Tape.tell(x, "");
        Tape.tell(x, "out 0;");
        x.by(1);
        Tape.put(x, "abc");
        int[] want = {2, 4, 978, 2, 1, 11, 3};
        for (int what = 0; what < want.length; what++) {
            due("31: about " + what, x.about(what), want[what]);
        }
        for (int state = 0; state < 4; state++) {
            due("31: state " + state, x.about(10 + state), 1);
        }
        due("31: 7", x.about(7), OTHER);
        due("31: 9", x.about(9), OTHER);
        due("31: 14", x.about(14), OTHER);
        due("31: -1", x.about(-1), OTHER);
    }
}
