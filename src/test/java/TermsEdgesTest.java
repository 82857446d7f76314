import java.io.IOException;

/** The edges that part I of the terms names, sentence by sentence. */
public final class TermsEdgesTest {
    private static final int NONE = CandleEnds.NONE;
    private static final int OTHER = -2;
    private static final int MIN = Integer.MIN_VALUE;
    private static final int MAX = Integer.MAX_VALUE;

    private final Edges edges = new Edges();

    private TermsEdgesTest() throws IOException {
    }

    public static void main(String[] args) throws IOException {
        TermsEdgesTest t = new TermsEdgesTest();
        t.housesOneByOne();
        t.draught();
        t.wax();
        t.debt();
        t.light();
        t.candlesOneByOne();
        t.thick();
        t.length();
        t.ownerAtFirst();
        t.states();
        t.where();
        t.next();
        t.firstX();
        t.boughtWithoutOwner();
        t.boughtUnburnt();
        t.boughtForWax();
        t.lightedUnlit();
        t.lightedOut();
        t.repaid();
        t.burnsIfLit();
        t.waxByTears();
        t.debtByPrice();
        t.namesAhead();
        t.drips();
        t.burntAtLength();
        t.handedOn();
        t.drawBelowOut();
        t.drawWraps();
        t.mothsMany();
        t.mothsOfHouses();
        t.mothsTakeFromBoth();
        t.stepsThirty();
        t.stepsLatestFirst();
        t.stepsAsAhead();
        t.refusedIsNoStep();
        t.toldSinceStay();
        t.edges.close("TermsEdgesTest");
    }

    private void due(String what, long got, long want) {
        edges.due(what, got, want);
    }

    private void housesOneByOne() {
        edges.sentence("HOUSES 0 .. 7 (told one by one)");
        CandleEnds x = new CandleEnds();
        due("none is told", x.houseOf(0, 0), OTHER);
        for (int house = 0; house < 8; house++) {
            due("number", x.house(9 - house, 100 + house), house);
            due("the next isn't told yet", x.houseOf(house + 1, 0), OTHER);
        }
        edges.refused("a ninth", x, () -> x.house(0, 0), NONE);
        due("the last one's draught", x.houseOf(7, 0), 2);
        due("the last one's wax", x.houseOf(7, 1), 107);
        due("the first one's draught", x.houseOf(0, 0), 9);
        due("there is no eighth number", x.houseOf(8, 0), OTHER);
    }

    private void draught() {
        edges.sentence("DRAUGHT (0 .. 9)");
        CandleEnds x = new CandleEnds();
        for (int draught : new int[] {-1, 10, MIN, MAX, 256}) {
            edges.refused("draught " + draught, x, () -> x.house(draught, 5), NONE);
        }
        due("the least is told", x.house(0, 5), 0);
        due("the most is told", x.house(9, 5), 1);
        due("the least", x.houseOf(0, 0), 0);
        due("the most", x.houseOf(1, 0), 9);
    }

    private void wax() {
        edges.sentence("WAX (0 .. 999)");
        CandleEnds x = new CandleEnds();
        for (int wax : new int[] {-1, 1000, MIN, MAX}) {
            edges.refused("wax " + wax, x, () -> x.house(5, wax), NONE);
        }
        due("the least is told", x.house(5, 0), 0);
        due("the most is told", x.house(5, 999), 1);
        due("the least", x.houseOf(0, 1), 0);
        due("the most", x.houseOf(1, 1), 999);
    }

    private void debt() {
        edges.sentence("DEBT (0 .. 999, at first 0)");
        CandleEnds x = Isles.of(999, 0);
        due("at first", x.houseOf(0, 2), 0);
        Tape.ruledBy(x, "price inch * 99 - inch / 11 * 90;");
        Isles.owned(x, 1, 0, NONE, NONE, NONE, NONE, NONE, NONE, NONE, NONE, NONE, NONE, NONE);
        x.light(0);
        Isles.burn(x, 0, 11);
        due("10 inches of 99", x.houseOf(0, 2), 990);
        Isles.burn(x, 0, 1);
        due("and one of 9: the most", x.houseOf(0, 2), 999);
        due("all of it is repaid", x.repay(0, 999), 0);
        due("the least", x.houseOf(0, 2), 0);
    }

    private void light() {
        edges.sentence("LIGHT (minutes so far, at first 0)");
        CandleEnds x = Isles.lit(9, 100);
        due("at first", x.houseOf(0, 3), 0);
        x.burn(0);
        due("behind an inch", x.houseOf(0, 3), 90);
        x.burn(0);
        due("behind two", x.houseOf(0, 3), 180);
    }

    private void candlesOneByOne() {
        edges.sentence("CANDLES 0 .. 5 (told one by one)");
        CandleEnds x = new CandleEnds();
        due("none is told", x.candleOf(0, 0), OTHER);
        for (int candle = 0; candle < 6; candle++) {
            due("number", x.candle(9 - candle, 1 + candle), candle);
            due("the next isn't told yet", x.candleOf(candle + 1, 0), OTHER);
        }
        edges.refused("a seventh", x, () -> x.candle(1, 1), NONE);
        due("the last one's thickness", x.candleOf(5, 0), 4);
        due("the last one's length", x.candleOf(5, 1), 6);
        due("the first one's thickness", x.candleOf(0, 0), 9);
        due("there is no sixth number", x.candleOf(6, 0), OTHER);
    }

    private void thick() {
        edges.sentence("THICK (1 .. 9)");
        CandleEnds x = new CandleEnds();
        for (int thick : new int[] {0, 10, -1, MIN, MAX}) {
            edges.refused("thick " + thick, x, () -> x.candle(thick, 3), NONE);
        }
        due("the least is told", x.candle(1, 3), 0);
        due("the most is told", x.candle(9, 3), 1);
        due("the least", x.candleOf(0, 0), 1);
        due("the most", x.candleOf(1, 0), 9);
    }

    private void length() {
        edges.sentence("LENGTH (1 .. 12 INCHES: 0, 1, ..)");
        CandleEnds x = Isles.of(99, 0);
        for (int length : new int[] {0, 13, -1, MIN, MAX}) {
            edges.refused("length " + length, x, () -> x.candle(3, length), NONE);
        }
        due("the least is told", x.candle(1, 1), 0);
        due("the most is told", x.candle(1, 12), 1);
        due("the least", x.candleOf(0, 1), 1);
        due("the most", x.candleOf(1, 1), 12);
        edges.refused("inch 1 of one", x, () -> x.buy(0, 0, 1), NONE);
        edges.refused("inch 12 of twelve", x, () -> x.buy(0, 1, 12), NONE);
        due("inch 0 of one", x.buy(0, 0, 0), 98);
        due("inch 11 of twelve", x.buy(0, 1, 11), 97);
    }

    private void ownerAtFirst() {
        edges.sentence("each INCH has an OWNER (a HOUSE) or none (at first)");
        CandleEnds x = Isles.of(99, 0, 0, 0, 0, 0, 0, 0, 0);
        x.candle(1, 12);
        for (int inch = 0; inch < 12; inch++) {
            due("of inch " + inch + " at first", x.candleOf(0, 10 + inch), NONE);
        }
        x.buy(7, 0, 11);
        x.buy(0, 0, 0);
        due("the last house", x.candleOf(0, 21), 7);
        due("the first house", x.candleOf(0, 10), 0);
        due("beside it", x.candleOf(0, 11), NONE);
    }

    private void states() {
        edges.sentence("STATE 0 unlit (at first), 1 LIT, 2 OUT, 3 BURNT");
        CandleEnds x = Isles.of(99, 0, 9);
        Isles.owned(x, 1, 0, 1);
        due("at first", x.candleOf(0, 2), 0);
        x.light(0);
        due("lit", x.candleOf(0, 2), 1);
        x.burn(0);
        due("out", x.candleOf(0, 2), 2);
        x.light(0);
        due("lit again", x.candleOf(0, 2), 1);
        x.burn(0);
        due("burnt", x.candleOf(0, 2), 3);
    }

    private void where() {
        edges.sentence("WHERE it is (a HOUSE; NONE: nowhere yet)");
        CandleEnds x = Isles.of(99, 0, 0);
        x.candle(1, 2);
        due("at first", x.candleOf(0, 3), NONE);
        x.buy(1, 0, 0);
        x.buy(0, 0, 1);
        due("bought, but unlit", x.candleOf(0, 3), NONE);
        x.light(0);
        due("lit", x.candleOf(0, 3), 1);
        x.burn(0);
        due("handed on", x.candleOf(0, 3), 0);
        x.burn(0);
        due("burnt", x.candleOf(0, 3), 0);
    }

    private void next() {
        edges.sentence("NEXT: the INCH that burns next (at first 0)");
        CandleEnds x = Isles.of(99, 0);
        Isles.owned(x, 1, 0, 0, 0, 0, 0, 0, 0, 0, 0, 0, 0, 0);
        due("at first", x.candleOf(0, 4), 0);
        x.light(0);
        for (int inch = 0; inch < 12; inch++) {
            due("ahead of burning", x.candleOf(0, 4), inch);
            x.burn(0);
            due("the inch that burnt", x.drip(inch, 1), inch);
        }
        due("behind the last", x.candleOf(0, 4), 12);
    }

    private void firstX() {
        edges.sentence("X: at first 5");
        CandleEnds x = Isles.of(99, 0, 9);
        due("at first", x.about(2), 5);
        Isles.owned(x, 1, 0, 1);
        x.light(0);
        due("nothing is drawn by telling, buying and lighting", x.about(2), 5);
    }

    private void boughtWithoutOwner() {
        edges.sentence("BOUGHT: an INCH without OWNER that isn't burnt, by a HOUSE that has WAX for it");
        CandleEnds x = Isles.of(50, 0, 0);
        x.candle(5, 2);
        due("bought", x.buy(0, 0, 1), 45);
        edges.refused("by its owner again", x, () -> x.buy(0, 0, 1), NONE);
        edges.refused("by another", x, () -> x.buy(1, 0, 1), NONE);
        due("beside it", x.buy(1, 0, 0), 45);
    }

    private void boughtUnburnt() {
        edges.sentence("an INCH without OWNER that isn't burnt");
        CandleEnds x = Isles.of(50, 0, 0);
        x.candle(5, 4);
        x.buy(0, 0, 0);
        x.light(0);
        Isles.burn(x, 0, 2);
        edges.refused("the one that is just burnt", x, () -> x.buy(1, 0, 1), NONE);
        due("the one that burns next", x.buy(1, 0, 2), 45);
        due("its owner", x.candleOf(0, 12), 1);
        due("it isn't handed on by that", x.candleOf(0, 3), 0);
        Isles.burn(x, 0, 2);
        edges.refused("the last one of a burnt candle", x, () -> x.buy(1, 0, 3), NONE);
        CandleEnds y = Isles.out(50, 50);
        y.candle(1, 2);
        due("of a candle beside one that is out", y.buy(0, 1, 1), 48);
        CandleEnds z = Isles.of(50, 0, 9);
        Isles.owned(z, 1, 0, 1, NONE);
        z.light(0);
        due("out", z.burn(0), 2);
        due("of one that is out", z.buy(0, 0, 2), 48);
    }

    private void boughtForWax() {
        edges.sentence("by a HOUSE that has WAX for it: WAX is less by price, it is the OWNER");
        CandleEnds x = new CandleEnds();
        x.house(0, 6);
        x.house(0, 7);
        x.house(0, 0);
        x.candle(7, 4);
        edges.refused("one too little", x, () -> x.buy(0, 0, 0), NONE);
        due("just so much", x.buy(1, 0, 0), 0);
        due("owner", x.candleOf(0, 10), 1);
        edges.refused("nothing is left", x, () -> x.buy(1, 0, 1), NONE);
        Tape.ruledBy(x, "price 0;");
        due("for nothing, without wax", x.buy(2, 0, 1), 0);
        due("its owner", x.candleOf(0, 11), 2);
        CandleEnds y = new CandleEnds();
        y.house(0, 98);
        y.house(0, 99);
        y.candle(1, 1);
        Tape.ruledBy(y, "price 100;");
        edges.refused("one less than the greatest price", y, () -> y.buy(0, 0, 0), NONE);
        due("the greatest price", y.buy(1, 0, 0), 0);
    }

    private void lightedUnlit() {
        edges.sentence("LIGHTED: an unlit CANDLE whose INCH 0 has an OWNER is LIT there");
        CandleEnds x = Isles.of(1, 9, 9);
        x.candle(1, 2);
        edges.refused("nobody owns an inch", x, () -> x.light(0), NONE);
        x.buy(0, 0, 1);
        edges.refused("inch 1 has an owner", x, () -> x.light(0), NONE);
        x.buy(1, 0, 0);
        due("lit, though that house has no wax left", x.light(0), 1);
        due("wax", x.houseOf(1, 1), 0);
        edges.refused("lit already", x, () -> x.light(0), NONE);
    }

    private void lightedOut() {
        edges.sentence("one that is OUT is LIT where it is, if that HOUSE has WAX: one less");
        CandleEnds x = Isles.out(50, 2);
        edges.refused("no wax there, though elsewhere", x, () -> x.light(0), NONE);
        CandleEnds y = Isles.out(1, 3);
        due("one wax there", y.houseOf(1, 1), 1);
        due("lit where it is", y.light(0), 1);
        due("none left", y.houseOf(1, 1), 0);
        due("its state", y.candleOf(0, 2), 1);
        due("next stays", y.candleOf(0, 4), 1);
        due("nothing is drawn", y.about(2), 978);
        Isles.burn(y, 0, 2);
        due("burnt", y.candleOf(0, 2), 3);
        edges.refused("a burnt one", y, () -> y.light(0), NONE);
    }

    private void repaid() {
        edges.sentence("REPAID: a HOUSE's DEBT and WAX are both less by k (1 at least, no more than either)");
        CandleEnds x = Isles.lit(9, 13);
        x.burn(0);
        edges.refused("no debt", x, () -> x.repay(0, 1), NONE);
        x.burn(0);
        due("debt", x.houseOf(0, 2), 9);
        due("wax", x.houseOf(0, 1), 4);
        edges.refused("k 0", x, () -> x.repay(0, 0), NONE);
        edges.refused("k -1", x, () -> x.repay(0, -1), NONE);
        edges.refused("one more than the wax", x, () -> x.repay(0, 5), NONE);
        edges.refused("the debt, without wax for it", x, () -> x.repay(0, 9), NONE);
        due("the least", x.repay(0, 1), 8);
        due("all the wax", x.repay(0, 3), 5);
        due("no wax", x.houseOf(0, 1), 0);
        edges.refused("no wax left", x, () -> x.repay(0, 1), NONE);
        CandleEnds y = Isles.lit(2, 13);
        Isles.burn(y, 0, 2);
        edges.refused("one more than the debt", y, () -> y.repay(0, 3), NONE);
        due("all the debt", y.repay(0, 2), 0);
        due("wax left", y.houseOf(0, 1), 9);
        edges.refused("no debt left", y, () -> y.repay(0, 1), NONE);
    }

    private void burnsIfLit() {
        edges.sentence("An INCH BURNS (of a CANDLE that is LIT, NEXT, in the HOUSE where it is)");
        CandleEnds x = Isles.of(50, 0);
        Isles.owned(x, 1, 0);
        edges.refused("unlit", x, () -> x.burn(0), NONE);
        x.light(0);
        due("lit", x.burn(0), 3);
        edges.refused("burnt", x, () -> x.burn(0), NONE);
        CandleEnds y = Isles.out(50, 50);
        edges.refused("out", y, () -> y.burn(0), NONE);
        y.light(0);
        due("lit again", y.burn(0), 1);
        due("in the house where it is", y.drip(1, 2), 1);
    }

    private void waxByTears() {
        edges.sentence("LIGHT of the HOUSE is more by burns, its WAX by tears (999 at most)");
        CandleEnds x = new CandleEnds();
        x.house(0, 998);
        Tape.ruledBy(x, "price 0; tears 1 + inch;");
        Isles.owned(x, 1, 0, 0, 0);
        x.light(0);
        x.burn(0);
        due("just 999", x.houseOf(0, 1), 999);
        x.burn(0);
        due("no more", x.houseOf(0, 1), 999);
        due("the drip tells what fell", x.drip(1, 4), 2);
        CandleEnds y = new CandleEnds();
        y.house(0, 901);
        Tape.ruledBy(y, "price 0; tears 99;");
        Isles.owned(y, 1, 0);
        y.light(0);
        y.burn(0);
        due("one over", y.houseOf(0, 1), 999);
        due("light is more", y.houseOf(0, 3), 10);
    }

    private void debtByPrice() {
        edges.sentence("if the INCH has no OWNER, its DEBT by price (999 at most");
        CandleEnds x = Isles.of(999, 0, 0);
        Tape.ruledBy(x, "price 99 - inch / 11 * 89;");
        Isles.owned(x, 1, 0, NONE, NONE, NONE, NONE, NONE, NONE, NONE, NONE, NONE, NONE, NONE);
        Isles.owned(x, 1, 0, 1);
        x.light(0);
        x.burn(0);
        due("none for an owned inch", x.houseOf(0, 2), 0);
        Isles.burn(x, 0, 11);
        due("990 and 10 are 999", x.houseOf(0, 2), 999);
        due("wax isn't touched", x.houseOf(0, 1), 801);
        x.light(1);
        x.burn(1);
        due("none for an owned inch at the most", x.houseOf(0, 2), 999);
        x.burn(1);
        due("none for an inch of another's own", x.houseOf(1, 2), 0);
        CandleEnds y = Isles.of(50, 0, 0);
        Isles.owned(y, 4, 0, NONE, NONE);
        y.light(0);
        y.burn(0);
        y.buy(1, 0, 1);
        y.burn(0);
        due("no debt for one that another bought as it stood next", y.houseOf(0, 2), 0);
        due("nor for that other", y.houseOf(1, 2), 0);
        due("the light is where it is", y.houseOf(0, 3), 80);
    }

    private void namesAhead() {
        edges.sentence("names as the HOUSE is ahead of this burning, for all three");
        CandleEnds x = Isles.of(50, 0);
        Tape.ruledBy(x, "price wax - 40 + debt; tears 20; burns 7;");
        Isles.owned(x, 1, 0, NONE, NONE);
        due("paid", x.houseOf(0, 1), 40);
        x.light(0);
        x.burn(0);
        due("wax behind tears", x.houseOf(0, 1), 60);
        x.burn(0);
        due("by wax ahead of the tears", x.houseOf(0, 2), 20);
        x.burn(0);
        due("by wax and debt ahead of it", x.houseOf(0, 2), 20 + 40 + 20);
    }

    private void drips() {
        edges.sentence("A DRIP is written: CANDLE, INCH, HOUSE, minutes, tears (72 at most in all)");
        CandleEnds x = Isles.of(999, 0);
        for (int candle = 0; candle < 6; candle++) {
            Isles.owned(x, 1, 0, NONE, NONE, NONE, NONE, NONE, NONE, NONE, NONE, NONE, NONE, NONE);
            x.light(candle);
            Isles.burn(x, candle, 12);
            due("drips", x.drip(NONE, 0), 12 * (candle + 1));
        }
        int[] last = {5, 11, 0, 10, 0};
        for (int what = 0; what < 5; what++) {
            due("the last one, " + what, x.drip(71, what), last[what]);
        }
        due("none behind it", x.drip(72, 0), OTHER);
        due("nothing can burn", x.burn(5), NONE);
        due("one is taken back", x.undo(), 29);
        due("71", x.drip(NONE, 0), 71);
        due("and burns again", x.burn(5), 3);
        due("72", x.drip(NONE, 0), 72);
    }

    private void burntAtLength() {
        edges.sentence("NEXT is one more; it is BURNT, if that is LENGTH");
        CandleEnds x = Isles.of(999, 9, 9);
        Isles.owned(x, 1, 0);
        x.light(0);
        due("the only inch", x.burn(0), 3);
        due("next is the length", x.candleOf(0, 4), 1);
        due("nothing is drawn", x.about(2), 5);
        Isles.owned(x, 1, 0, 0, 0, 0, 0, 0, 0, 0, 0, 0, 0, 0);
        x.light(1);
        due("the eleventh of twelve", Isles.burn(x, 1, 11), 1);
        due("the twelfth", x.burn(1), 3);
        due("next", x.candleOf(1, 4), 12);
        due("it stays in its house", x.candleOf(1, 3), 0);
    }

    private void handedOn() {
        edges.sentence("else, if NEXT has an OWNER who isn't this HOUSE, it is HANDED on: it is WHERE that OWNER is");
        CandleEnds x = Isles.of(999, 0, 0);
        Isles.owned(x, 1, 0, 0, NONE, 1, NONE, 0);
        x.light(0);
        int[] houses = {0, 0, 1, 1, 0};
        int[] xs = {5, 5, 978, 978, 25090};
        for (int i = 0; i < houses.length; i++) {
            due("state", x.burn(0), 1);
            due("where behind inch " + i, x.candleOf(0, 3), houses[i]);
            due("drawn, if handed on, behind inch " + i, x.about(2), xs[i]);
        }
        x.burn(0);
        due("the last one isn't handed on", x.about(2), 25090);
    }

    /** STATE behind the first burning, if the candle is handed on with a first draw of X mod 10 by this out. */
    private static int handedBy(int seed, int drawsAhead, int out) {
        CandleEnds x = Isles.of(99, 0, 0);
        x.seed(seed);
        for (int i = 0; i < drawsAhead; i++) {
            x.moths(1);
        }
        Tape.ruledBy(x, "out 10 * house - " + (10 - out) + ";");
        Isles.owned(x, 1, 0, 1);
        x.light(0);
        return x.burn(0);
    }

    private void drawBelowOut() {
        edges.sentence("a draw by 10 below out (names by that HOUSE and that INCH): OUT");
        // Seed s begins with X = 4 s + 5: 9, 5, 21; seed 2 has 2410 behind one draw.
        due("9 below 10", handedBy(1, 0, 10), 2);
        due("9 isn't below 9", handedBy(1, 0, 9), 1);
        due("5 below 6", handedBy(0, 0, 6), 2);
        due("5 isn't below 5", handedBy(0, 0, 5), 1);
        due("1 below 2", handedBy(4, 0, 2), 2);
        due("1 isn't below 1", handedBy(4, 0, 1), 1);
        due("0 below 1", handedBy(2, 1, 1), 2);
        due("0 isn't below 0", handedBy(2, 1, 0), 1);
        CandleEnds x = Isles.of(99, 9, 0);
        Tape.ruledBy(x, "out inch * 6;");
        Isles.owned(x, 1, 0, 1);
        x.light(0);
        due("by the inch that comes, not the one that burnt", x.burn(0), 2);
        due("it is where it was handed to", x.candleOf(0, 3), 1);
    }

    private void drawWraps() {
        edges.sentence("A draw by m: X mod m, X being (X * 179 + 83) mod 30011 then");
        CandleEnds x = Isles.of(99, 0);
        x.seed(1734);
        due("just ahead", x.about(2), 6941);
        x.moths(2);
        due("it comes to 0", x.about(2), 0);
        x.moths(1);
        due("and goes on", x.about(2), 83);
        x.seed(7916);
        x.moths(3);
        due("the greatest", x.about(2), 30010);
        x.moths(1);
        due("and behind it", x.about(2), 30011 - 179 + 83);
        x.seed(9999);
        due("a seed above it stays whole", x.about(2), 40001);
        x.moths(1);
        due("until it is drawn", x.about(2), 17644);
        CandleEnds y = Isles.of(99, 0, 0, 0);
        Isles.owned(y, 1, 2, NONE);
        y.light(0);
        Isles.burn(y, 0, 2);
        y.seed(9999);
        // 40001 mod 3 is 2, but (40001 mod 30011) mod 3 is 0.
        due("X mod m ahead of the wrap", y.moths(1), 1);
    }

    private void mothsMany() {
        edges.sentence("MOTHS: n times (1 .. 30)");
        CandleEnds x = Isles.of(999, 0);
        Tape.ruledBy(x, "price 99;");
        Isles.owned(x, 1, 0, NONE);
        x.light(0);
        Isles.burn(x, 0, 2);
        for (int n : new int[] {0, -1, 31, MIN, MAX}) {
            edges.refused(n + " moths", x, () -> x.moths(n), NONE);
        }
        due("one", x.moths(1), 1);
        due("thirty", x.moths(30), 30);
        due("debt", x.houseOf(0, 2), 68);
        due("wax", x.houseOf(0, 1), 869);
        due("two steps in all", x.about(5), 6);
    }

    private void mothsOfHouses() {
        edges.sentence("a draw by how many HOUSES there are");
        CandleEnds none = new CandleEnds();
        edges.refused("no houses", none, () -> none.moths(1), NONE);
        CandleEnds x = Isles.of(99, 0, 0, 0, 0, 0, 0, 0, 0);
        Isles.owned(x, 9, 5, NONE, NONE);
        x.light(0);
        Isles.burn(x, 0, 3);
        // X goes 5, 978: by eight 5, 2.
        due("house 5 of eight", x.moths(1), 1);
        due("house 2 of eight has no debt", x.moths(1), 0);
        CandleEnds y = Isles.of(99, 0, 0, 0);
        Isles.owned(y, 9, 2, NONE, NONE);
        y.light(0);
        Isles.burn(y, 0, 3);
        due("5 by three is house 2", y.moths(1), 1);
        y.house(0, 9);
        y.seed(0);
        due("5 by four is house 1, once a fourth is told", y.moths(1), 0);
    }

    private void mothsTakeFromBoth() {
        edges.sentence("if that HOUSE has DEBT and WAX, both are one less");
        CandleEnds x = Isles.of(50, 0);
        edges.due("wax without debt", x.moths(30), 0);
        due("wax stays", x.houseOf(0, 1), 50);
        CandleEnds y = Isles.lit(3, 3);
        Isles.burn(y, 0, 2);
        due("debt without wax", y.moths(30), 0);
        due("debt stays", y.houseOf(0, 2), 3);
        CandleEnds z = Isles.lit(3, 5);
        Isles.burn(z, 0, 2);
        due("until the wax is gone", z.moths(30), 2);
        due("debt is left", z.houseOf(0, 2), 1);
        due("no wax is left", z.houseOf(0, 1), 0);
        CandleEnds w = Isles.lit(3, 50);
        Isles.burn(w, 0, 2);
        due("until the debt is gone", w.moths(30), 3);
        due("no debt is left", w.houseOf(0, 2), 0);
        due("wax is left", w.houseOf(0, 1), 44);
    }

    private void stepsThirty() {
        edges.sentence("the latest 30 can be taken back");
        for (int steps : new int[] {29, 30, 31, 59, 60, 61, 95}) {
            CandleEnds x = Isles.of(0, 0);
            int[] xs = new int[steps + 1];
            for (int i = 0; i < steps; i++) {
                xs[i] = x.about(2);
                x.moths(1);
            }
            int can = Math.min(30, steps);
            due(steps + " steps: can be taken back", x.about(5), can);
            for (int i = 1; i <= can; i++) {
                due(steps + " steps: yet", x.undo(), can - i);
                due(steps + " steps: X", x.about(2), xs[steps - i]);
            }
            edges.refused(steps + " steps: no more", x, x::undo, NONE);
        }
    }

    private void stepsLatestFirst() {
        edges.sentence("the latest first");
        CandleEnds x = Isles.of(50, 0);
        Isles.owned(x, 1, 0, 0);
        x.undo();
        due("the later purchase", x.candleOf(0, 11), NONE);
        due("the earlier stays", x.candleOf(0, 10), 0);
        x.buy(0, 0, 1);
        due("done again it is a step again", x.about(5), 2);
        x.undo();
        x.undo();
        due("the earlier", x.candleOf(0, 10), NONE);
        edges.refused("none is left", x, x::undo, NONE);
    }

    private static int behindDraws(int from, int draws) {
        int x = from;
        for (int i = 0; i < draws; i++) {
            x = (x * 179 + 83) % 30011;
        }
        return x;
    }

    private void stepsAsAhead() {
        edges.sentence("(WAX, DEBT, LIGHT, OWNERS, STATES, WHERE, NEXT, DRIPS, X are as ahead of it");
        CandleEnds x = Isles.of(50, 0, 9);
        Tape.ruledBy(x, "price 3; tears 60; burns 8;");
        Isles.owned(x, 1, 0, NONE, 1, NONE);
        x.light(0);
        x.burn(0);
        x.burn(0);
        x.light(0);
        x.repay(0, 1);
        x.moths(30);
        x.burn(0);
        x.burn(0);
        due("burnt", x.candleOf(0, 2), 3);
        int thirtyOn = behindDraws(978, 30);
        int[][] seen = {
            // WAX and DEBT of 0, then of 1, LIGHT of 0, of 1, STATE, WHERE, NEXT, DRIPS, X
            {164, 0, 106, 0, 16, 8, 1, 1, 3, 3, thirtyOn},
            {164, 0, 46, 0, 16, 0, 1, 1, 2, 2, thirtyOn},
            {166, 2, 46, 0, 16, 0, 1, 1, 2, 2, 978},
            {167, 3, 46, 0, 16, 0, 1, 1, 2, 2, 978},
            {167, 3, 47, 0, 16, 0, 2, 1, 2, 2, 978},
            {107, 0, 47, 0, 8, 0, 1, 0, 1, 1, 5},
            {47, 0, 47, 0, 0, 0, 1, 0, 0, 0, 5},
            {47, 0, 47, 0, 0, 0, 0, NONE, 0, 0, 5}
        };
        for (int i = 0; i < seen.length; i++) {
            due("yet", x.undo(), 9 - i);
            int[] got = {x.houseOf(0, 1), x.houseOf(0, 2), x.houseOf(1, 1), x.houseOf(1, 2), x.houseOf(0, 3),
                x.houseOf(1, 3), x.candleOf(0, 2), x.candleOf(0, 3), x.candleOf(0, 4), x.drip(NONE, 0), x.about(2)};
            for (int what = 0; what < got.length; what++) {
                due("step " + i + " taken back, " + what, got[what], seen[i][what]);
            }
        }
        x.undo();
        due("the purchase", x.candleOf(0, 12), NONE);
        due("its wax", x.houseOf(1, 1), 50);
    }

    private void refusedIsNoStep() {
        edges.sentence("STEPS: buying, lighting, burning, repaying, MOTHS");
        CandleEnds x = Isles.of(5, 0);
        x.candle(1, 1);
        x.buy(0, 0, 0);
        for (int i = 0; i < 29; i++) {
            x.moths(1);
        }
        due("full", x.about(5), 30);
        due("refused buying", x.buy(0, 0, 0), NONE);
        due("refused lighting", x.light(1), NONE);
        due("refused burning", x.burn(0), NONE);
        due("refused repaying", x.repay(0, 1), NONE);
        due("refused moths", x.moths(31), NONE);
        x.house(1, 1);
        x.candle(1, 1);
        x.seed(1);
        x.by(NONE);
        x.text();
        x.image();
        for (int i = 29; i >= 0; i--) {
            due("none of these was a step", x.undo(), i);
        }
        due("the first can be taken back yet", x.candleOf(0, 10), NONE);
    }

    private void toldSinceStay() {
        edges.sentence("HOUSES and CANDLES told since stay as told");
        CandleEnds x = Isles.of(50, 0);
        x.moths(1);
        for (int i = 1; i < 8; i++) {
            x.house(i, 100 + i);
        }
        for (int i = 0; i < 6; i++) {
            x.candle(1 + i, 7 + i);
        }
        x.buy(7, 5, 11);
        due("the purchase", x.undo(), 1);
        due("all are taken back", x.undo(), 0);
        due("houses", x.about(0), 8);
        due("candles", x.about(1), 6);
        for (int i = 1; i < 8; i++) {
            due("draught", x.houseOf(i, 0), i);
            due("wax", x.houseOf(i, 1), 100 + i);
            due("debt", x.houseOf(i, 2), 0);
        }
        for (int i = 0; i < 6; i++) {
            due("thick", x.candleOf(i, 0), 1 + i);
            due("length", x.candleOf(i, 1), 7 + i);
            due("the last inch has no owner", x.candleOf(i, 10 + 6 + i), NONE);
        }
    }
}
