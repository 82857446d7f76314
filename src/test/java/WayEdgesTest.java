import java.io.IOException;

/** The edges that part III of the terms names: ways, odds, suppers, marriages, clubs, prices and images. */
public final class WayEdgesTest {
    private static final int NONE = CandleEnds.NONE;
    private static final int OTHER = -2;
    private static final int MOST = 9999;

    private final Edges edges = new Edges();

    private WayEdgesTest() throws IOException {
    }

    public static void main(String[] args) throws IOException {
        WayEdgesTest t = new WayEdgesTest();
        t.wayOrNone();
        t.firstInchWhereItIs();
        t.withoutOwner();
        t.asOwnedNow();
        t.asIfLit();
        t.minutes();
        t.firstMinutes();
        t.oddsOfNext();
        t.oddsByTen();
        t.oddsInLowestTerms();
        t.blameIfPutOut();
        t.blameInLowestTerms();
        t.guestsMany();
        t.sixthCandle();
        t.likeSuppers();
        t.suppersNobodyKeeps();
        t.twoAndTwo();
        t.minutesLeft();
        t.asFewAsCanBe();
        t.likeMarriages();
        t.worthOfPairs();
        t.worthBurntOrNot();
        t.clubsMany();
        t.likeClubs();
        t.priceToBeginWith();
        t.waxOfPriceOrMore();
        t.inchesWithoutOwner();
        t.pricesAtTheirEnds();
        t.roundsAndRound();
        t.imageOfAll();
        t.imageOfWhatBurns();
        t.imageButTheTape();
        t.textsBehindTheImage();
        t.edges.close("WayEdgesTest");
    }

    private void due(String what, long got, long want) {
        edges.due(what, got, want);
    }

    private void noWay(String what, CandleEnds x, int candle) {
        for (int t : new int[] {0, 1, MOST}) {
            due(what + ": whose", x.whose(candle, t), NONE);
        }
        for (int inch = 0; inch < 3; inch++) {
            odds(what, x, candle, inch, NONE, NONE);
        }
        for (int house = 0; house < 2; house++) {
            blame(what, x, candle, house, NONE, NONE);
        }
    }

    private void odds(String what, CandleEnds x, int candle, int inch, long upper, long lower) {
        due(what + ": upper odds of inch " + inch, x.odds(candle, inch, false), upper);
        due(what + ": lower odds of inch " + inch, x.odds(candle, inch, true), lower);
    }

    private void blame(String what, CandleEnds x, int candle, int house, long upper, long lower) {
        due(what + ": upper blame of house " + house, x.blame(candle, house, false), upper);
        due(what + ": lower blame of house " + house, x.blame(candle, house, true), lower);
    }

    private void wayOrNone() {
        edges.sentence("THE WAY of a CANDLE that is unlit (its INCH 0 has an OWNER), LIT or OUT");
        CandleEnds x = Isles.of(99, 3, 9);
        x.candle(1, 3);
        noWay("nobody owns an inch", x, 0);
        x.buy(1, 0, 1);
        noWay("inch 0 has no owner", x, 0);
        noWay("not told", x, 1);
        x.buy(0, 0, 0);
        due("unlit, with an owner", x.whose(0, 0), 0);
        odds("unlit", x, 0, 0, 1, 1);
        x.light(0);
        due("lit", x.whose(0, 0), 0);
        due("put out", x.burn(0), 2);
        due("out", x.whose(0, 0), 1);
        odds("out", x, 0, 1, 1, 1);
        x.light(0);
        Isles.burn(x, 0, 2);
        noWay("burnt", x, 0);
    }

    private void firstInchWhereItIs() {
        edges.sentence("the first INCH (NEXT) burns WHERE it is, whoever owns it (of an unlit one: in the HOUSE of the OWNER"
            + " of INCH 0)");
        CandleEnds x = Isles.of(99, 5, 5, 5);
        Isles.owned(x, 1, 2, NONE, NONE);
        due("unlit", x.whose(0, 0), 2);
        x.light(0);
        x.burn(0);
        x.buy(1, 0, 1);
        due("another owns it now", x.whose(0, 0), 2);
        due("to its last minute", x.whose(0, 9), 2);
        due("the one behind it has no owner, so it stays there", x.whose(0, 19), 2);
        odds("nobody is handed it", x, 0, 2, 1, 1);
        blame("nobody is handed it", x, 0, 1, NONE, NONE);
    }

    private void withoutOwner() {
        edges.sentence("each one behind it in the HOUSE of its OWNER (without one: where the INCH ahead burnt)");
        CandleEnds x = Isles.of(99, 5, 5, 5);
        Isles.owned(x, 1, 0, NONE, 1, NONE, NONE, 2);
        int[] houses = {0, 0, 1, 1, 1, 2};
        for (int inch = 0; inch < houses.length; inch++) {
            due("inch " + inch + ", first minute", x.whose(0, 10 * inch), houses[inch]);
            due("inch " + inch + ", last minute", x.whose(0, 10 * inch + 9), houses[inch]);
        }
        odds("handed on twice", x, 0, 4, 1, 2);
        odds("handed on twice", x, 0, 5, 1, 4);
    }

    private void asOwnedNow() {
        edges.sentence("HANDED on as told, as INCHES are owned now");
        CandleEnds x = Isles.of(99, 5, 5);
        Isles.owned(x, 1, 0, NONE);
        due("nobody yet", x.whose(0, 10), 0);
        x.buy(1, 0, 1);
        due("bought since", x.whose(0, 10), 1);
        x.undo();
        due("taken back", x.whose(0, 10), 0);
        due("asking is no step", x.about(5), 1);
        due("asking draws nothing", x.about(2), 5);
    }

    private void asIfLit() {
        edges.sentence("if it is OUT or unlit, as if it were LIT there");
        CandleEnds x = Isles.out(9, 2);
        due("without wax to be lit by", x.light(0), NONE);
        due("at once", x.whose(0, 0), 1);
        due("its last minute", x.whose(0, 19), 1);
        odds("sure", x, 0, 2, 1, 1);
        odds("ahead of next", x, 0, 0, NONE, NONE);
    }

    private void minutes() {
        edges.sentence("WHOSE is it at minute t (0 .. 9999) from now");
        CandleEnds x = Isles.of(999, 0, 0);
        Tape.ruledBy(x, "burns 99; price 1;");
        Isles.owned(x, 9, 0, NONE, NONE, NONE, NONE, NONE, NONE, NONE, NONE, NONE, NONE, 1);
        for (int t : new int[] {-1, 10000, Integer.MIN_VALUE, Integer.MAX_VALUE}) {
            due("minute " + t, x.whose(0, t), NONE);
        }
        due("the first", x.whose(0, 0), 0);
        due("the last at the first house", x.whose(0, 1088), 0);
        due("the first at the last house", x.whose(0, 1089), 1);
        due("the last", x.whose(0, 1187), 1);
        due("burnt by then", x.whose(0, 1188), NONE);
        due("minute 9999", x.whose(0, MOST), NONE);
    }

    private void firstMinutes() {
        edges.sentence("the first INCH burns at minutes 0 .. burns - 1");
        CandleEnds x = Isles.of(99, 0, 0);
        Tape.ruledBy(x, "burns house * 3;");
        Isles.owned(x, 9, 0, 1, 0);
        due("burns 1 at least", x.whose(0, 0), 0);
        due("the next minute", x.whose(0, 1), 1);
        due("its last", x.whose(0, 3), 1);
        due("the last inch", x.whose(0, 4), 0);
        due("burnt", x.whose(0, 5), NONE);
        x.light(0);
        x.burn(0);
        due("from now", x.whose(0, 2), 1);
        due("from now, the last inch", x.whose(0, 3), 0);
        due("from now, burnt", x.whose(0, 4), NONE);
    }

    private void oddsOfNext() {
        edges.sentence("ODDS that it comes so far that INCH i burns (NEXT: 1 by 1)");
        CandleEnds x = Isles.of(99, 9, 9);
        Tape.ruledBy(x, "out 10;");
        Isles.owned(x, 1, 0, 1, 0);
        odds("unlit", x, 0, 0, 1, 1);
        odds("unlit", x, 0, 1, 0, 1);
        odds("there is none such", x, 0, -1, NONE, NONE);
        odds("there is none such", x, 0, 3, NONE, NONE);
        x.light(0);
        x.burn(0);
        odds("out: ahead of next", x, 0, 0, NONE, NONE);
        odds("out: next, though it was handed on", x, 0, 1, 1, 1);
        odds("out: the one behind it", x, 0, 2, 0, 1);
    }

    private void oddsByTen() {
        edges.sentence("by out of 10 at each HANDING on");
        CandleEnds x = Isles.of(99, 0, 9);
        Isles.owned(x, 1, 0, 1, 1, NONE, 0);
        odds("9 of 10 is put out", x, 0, 1, 1, 10);
        odds("the same house", x, 0, 2, 1, 10);
        odds("no owner", x, 0, 3, 1, 10);
        odds("0 of 10", x, 0, 4, 1, 10);
        x.by(Tape.tell(x, "out 10 - house;"));
        odds("9 of 10", x, 0, 1, 1, 10);
        odds("10 of 10", x, 0, 4, 0, 1);
    }

    private void oddsInLowestTerms() {
        edges.sentence("in lowest terms");
        CandleEnds x = Isles.of(999, 5, 4);
        int[] owners = {0, 1, 0, 1, 0, 1, 0, 1, 0, 1, 0, 1};
        Isles.owned(x, 1, owners);
        // Each other handing keeps 6 of 10, then 5 of 10.
        long[] upper = {1, 3, 3, 9, 9, 27, 27, 81, 81, 243, 243, 729};
        long[] lower = {1, 5, 10, 50, 100, 500, 1000, 5000, 10000, 50000, 100000, 500000};
        for (int inch = 0; inch < owners.length; inch++) {
            odds("long way", x, 0, inch, upper[inch], lower[inch]);
        }
        CandleEnds y = Isles.of(999, 1, 1);
        Isles.owned(y, 1, owners);
        long nine = 1;
        long ten = 1;
        for (int inch = 0; inch < owners.length; inch++) {
            odds("nothing to shorten", y, 0, inch, nine, ten);
            nine *= 9;
            ten *= 10;
        }
    }

    private void blameIfPutOut() {
        edges.sentence("BLAME of a HOUSE: if it is put out on its WAY, the ODDS that it is so as it is HANDED to this HOUSE"
            + " (0 by 1, if it never is)");
        CandleEnds x = Isles.of(99, 2, 0, 5, 9);
        Isles.owned(x, 1, 0, 1);
        blame("it can't be put out: no draught", x, 0, 1, NONE, NONE);
        blame("it can't be put out: the first house", x, 0, 0, NONE, NONE);
        Isles.owned(x, 1, 0, 0, NONE);
        blame("it can't be put out: never handed on", x, 1, 0, NONE, NONE);
        Isles.owned(x, 1, 0, 1, 2);
        blame("the only one", x, 2, 2, 1, 1);
        blame("handed to it, but no draught", x, 2, 1, 0, 1);
        blame("it has it first", x, 2, 0, 0, 1);
        blame("never handed to it", x, 2, 3, 0, 1);
        x.by(Tape.tell(x, "out 10;"));
        blame("surely at the first handing", x, 2, 1, 1, 1);
        blame("never comes so far", x, 2, 2, 0, 1);
        due("a house that isn't told", x.blame(2, 4, false), NONE);
        due("house -1", x.blame(2, -1, true), NONE);
    }

    private void blameInLowestTerms() {
        edges.sentence("(0 by 1, if it never is); in lowest terms");
        CandleEnds x = Isles.of(99, 6, 5);
        Isles.owned(x, 1, 0, 1, 0);
        // 5 of 10 at 1, then 3 of 10 at 0: 8 of 10 in all.
        blame("two handings", x, 0, 1, 5, 8);
        blame("two handings", x, 0, 0, 3, 8);
        Isles.owned(x, 1, 0, 1, 0, 1);
        // 50, 30 and 10 of 100.
        blame("twice at one", x, 1, 1, 2, 3);
        blame("once at the other", x, 1, 0, 1, 3);
        CandleEnds y = Isles.of(999, 1, 1);
        Isles.owned(y, 1, 0, 1, 0, 1, 0, 1, 0, 1, 0, 1, 0, 1);
        // 10^11 - 9^11 in all, of which 1 has 10^10 + 81 * 10^8 + .. + 9^10.
        long all = 100000000000L - 31381059609L;
        long ofOne = 0;
        for (int i = 0; i < 6; i++) {
            long part = 1;
            for (int k = 0; k < 10; k++) {
                part *= k < 2 * i ? 9 : 10;
            }
            ofOne += part;
        }
        long common = java.math.BigInteger.valueOf(all).gcd(java.math.BigInteger.valueOf(ofOne)).longValue();
        blame("the longest way", y, 0, 1, ofOne / common, all / common);
    }

    private void seats(String what, CandleEnds x, int set, int thick, int... order) {
        for (int i = 0; i < order.length; i++) {
            due(what + ": seat " + i, x.supper(set, thick, i), order[i]);
        }
        due(what + ": no seat more", x.supper(set, thick, order.length), NONE);
        due(what + ": no seat -1", x.supper(set, thick, -1), NONE);
    }

    private void guestsMany() {
        edges.sentence("with as many INCHES as a set has HOUSES (1 to 6)");
        CandleEnds x = Isles.of(9, 1, 1, 1, 1, 1, 1, 1, 1);
        due("none", x.supper(0, 1, 0), NONE);
        seats("one", x, 0b10000000, 1, 7);
        seats("two", x, 0b11000000, 1, 6, 7);
        seats("six", x, 0b11111100, 9, 2, 3, 4, 5, 6, 7);
        due("seven", x.supper(0b11111110, 1, 0), NONE);
        due("eight", x.supper(0b11111111, 1, 0), NONE);
        due("one that isn't told", x.supper(0b100000001, 1, 0), NONE);
        due("negative", x.supper(Integer.MIN_VALUE, 1, 0), NONE);
        due("negative, all bits", x.supper(-1, 1, 0), NONE);
        CandleEnds y = Isles.of(9, 0, 0, 0, 0, 0, 0);
        Tape.ruledBy(y, "out 10 - length + inch * 0;");
        seats("the length is how many they are", y, 0b111111, 1, 0, 1, 2, 3, 4, 5);
        y.by(Tape.tell(y, "out (length - 6) * (length - 6) * 10 + (house - 5 + inch) * (house - 5 + inch);"));
        seats("six inches", y, 0b111111, 1, 5, 4, 3, 2, 1, 0);
        y.by(Tape.tell(y, "out (length - 1) * 10;"));
        seats("the first is never handed on", y, 1, 1, 0);
    }

    private void sixthCandle() {
        edges.sentence("numbered as the next CANDLE would be (6, too)");
        CandleEnds x = Isles.of(9, 0, 0);
        Tape.ruledBy(x, "out (1 - candle) * (1 - house) * 5 + candle / 6 * house * 5;");
        seats("candle 0: 0 is put out, if it is second", x, 3, 1, 0, 1);
        for (int candle = 0; candle < 6; candle++) {
            x.candle(1, 1);
        }
        seats("candle 6: 1 is put out, if it is second", x, 3, 1, 1, 0);
    }

    private void likeSuppers() {
        edges.sentence("of like ones the lowest first HOUSE, then second, .. .");
        CandleEnds x = Isles.of(9, 4, 4, 4, 9, 4, 4);
        seats("all alike", x, 0b110111, 1, 0, 1, 2, 4, 5);
        seats("the worst is first, the others in order", x, 0b111111, 1, 3, 0, 1, 2, 4, 5);
        CandleEnds y = Isles.of(9, 0, 0, 0);
        Tape.ruledBy(y, "out house * inch;");
        // 2, 1, 0 is kept 9 of 10 times, 1, 2, 0 only 8, and any other order less.
        seats("not alike", y, 7, 1, 2, 1, 0);
    }

    private void suppersNobodyKeeps() {
        edges.sentence("so that it is likeliest that it isn't put out at all");
        CandleEnds x = Isles.of(9, 9, 0, 5, 0);
        Tape.ruledBy(x, "out 10;");
        seats("all are as unlikely", x, 0b1111, 1, 0, 1, 2, 3);
        x.by(Tape.tell(x, "out inch / 3 * 10 + house * 2;"));
        seats("the last is put out whoever it is", x, 0b1111, 1, 0, 1, 2, 3);
        seats("three have no such inch", x, 0b1110, 1, 3, 1, 2);
    }

    private void married(String what, CandleEnds x, int most, int... partners) {
        due(what + ": the two that have most", x.married(NONE), most);
        for (int i = 0; i < partners.length; i++) {
            due(what + ": partner of " + i, x.married(i), partners[i]);
        }
        due(what + ": partner of one that isn't told", x.married(partners.length), NONE);
    }

    private void twoAndTwo() {
        edges.sentence("all CANDLES told two and two (none, if they are odd many, or without HOUSES)");
        CandleEnds x = new CandleEnds();
        due("neither candles nor houses", x.married(NONE), NONE);
        x.candle(1, 1);
        x.candle(1, 1);
        due("without houses", x.married(NONE), NONE);
        due("without houses, of one", x.married(1), NONE);
        x.house(0, 0);
        married("two", x, 20, 1, 0);
        for (int candles = 3; candles <= 6; candles++) {
            x.candle(1, 1);
            boolean isOdd = candles % 2 == 1;
            due(candles + " candles", x.married(NONE), isOdd ? NONE : 20);
            due(candles + " candles, the first", x.married(0), isOdd ? NONE : 1);
            due(candles + " candles, the last", x.married(candles - 1), isOdd ? NONE : candles - 2);
        }
        CandleEnds y = Isles.of(9, 0);
        due("no candles", y.married(NONE), NONE);
        due("no candles, of 0", y.married(0), NONE);
        y.candle(1, 1);
        due("one candle", y.married(NONE), NONE);
    }

    private void minutesLeft() {
        edges.sentence("of all INCHES from NEXT on, each in HOUSE 0's burns: names of HOUSE 0");
        CandleEnds x = Isles.of(99, 2, 9);
        Tape.ruledBy(x, "burns draught + house * 50 + inch;");
        Isles.owned(x, 1, 1, 1, 1);
        x.candle(1, 1);
        married("all of them, by house 0", x, 2 + 3 + 4 + 2, 1, 0);
        x.light(0);
        x.burn(0);
        married("one is burnt", x, 3 + 4 + 2, 1, 0);
        Isles.burn(x, 0, 2);
        married("all are burnt", x, 2, 1, 0);
        x.buy(0, 1, 0);
        x.light(1);
        x.burn(1);
        married("both are burnt", x, 0, 1, 0);
    }

    private void asFewAsCanBe() {
        edges.sentence("those two that have most have as few as can be");
        CandleEnds x = Isles.of(99, 0);
        int[] lengths = {12, 1, 7, 3, 9, 5};
        for (int length : lengths) {
            x.candle(1, length);
        }
        // 120, 10, 70, 30, 90, 50: with 2 and 3 together 4 and 5 would have 140.
        married("the longest with the shortest", x, 130, 1, 0, 5, 4, 3, 2);
    }

    private void likeMarriages() {
        edges.sentence("of like ones the partner of the lowest is the lowest, then of the lowest that has none yet, .. .");
        CandleEnds x = Isles.of(99, 0);
        for (int i = 0; i < 6; i++) {
            x.candle(3, 4);
        }
        married("all alike", x, 240, 1, 0, 3, 2, 5, 4);
        CandleEnds y = Isles.of(99, 0);
        int[] lengths = {2, 9, 1, 1, 2, 1};
        for (int length : lengths) {
            y.candle(1, length);
        }
        // 9 with a 1 is 100 and most, so the rest is free: 0 with 2 is lower than 0 with 3 or 4.
        married("one pair rules", y, 100, 2, 3, 0, 1, 5, 4);
    }

    private void worthOfPairs() {
        edges.sentence("how many times two INCHES one behind the other of a CANDLE have both OWNERS in it");
        CandleEnds none = new CandleEnds();
        due("the empty set without houses", none.worth(0), 0);
        due("a house that isn't told", none.worth(1), NONE);
        CandleEnds x = Isles.of(999, 0, 0, 0, 0, 0, 0, 0, 0);
        due("no candles", x.worth(255), 0);
        due("too great", x.worth(256), NONE);
        due("negative", x.worth(-1), NONE);
        due("far below", x.worth(Integer.MIN_VALUE), NONE);
        due("far above", x.worth(Integer.MAX_VALUE), NONE);
        Isles.owned(x, 1, 7);
        Isles.owned(x, 1, 7);
        due("not from one candle to the other", x.worth(128), 0);
        Isles.owned(x, 1, 7, 6, NONE, 6, 6, 7);
        due("the empty set", x.worth(0), 0);
        due("7 alone", x.worth(128), 0);
        due("6 alone: both its own", x.worth(64), 1);
        due("both", x.worth(192), 3);
        due("all", x.worth(255), 3);
        Isles.owned(x, 1, 0, 0, 0, 0, 0, 0, 0, 0, 0, 0, 0, 0);
        due("twelve of one", x.worth(1), 11);
        Isles.owned(x, 1, 5, 5);
        due("the last candle", Isles.owned(x, 1, 5, 5, 5), 5);
        due("of all six", x.worth(255), 3 + 11 + 1 + 2);
    }

    private void worthBurntOrNot() {
        edges.sentence("have both OWNERS in it (burnt or not)");
        CandleEnds x = Isles.of(99, 0, 0);
        Isles.owned(x, 1, 0, 1, 0);
        due("unburnt", x.worth(3), 2);
        x.light(0);
        x.burn(0);
        due("one is burnt", x.worth(3), 2);
        Isles.burn(x, 0, 2);
        due("all are burnt", x.worth(3), 2);
    }

    private void clubsMany() {
        edges.sentence("BEST of k HOUSES (1 to as many as there are): the set of greatest WORTH");
        CandleEnds none = new CandleEnds();
        due("no houses", none.club(1), NONE);
        due("none of no houses", none.club(0), NONE);
        CandleEnds x = Isles.of(99, 0, 0, 0, 0, 0, 0, 0, 0);
        Isles.owned(x, 1, 7, 7, 6, 5, 5, 7);
        due("0", x.club(0), NONE);
        due("-1", x.club(-1), NONE);
        due("9", x.club(9), NONE);
        due("far below", x.club(Integer.MIN_VALUE), NONE);
        due("far above", x.club(Integer.MAX_VALUE), NONE);
        due("one of eight", x.club(1), 0b100000);
        due("two of eight", x.club(2), 0b10100000);
        due("three of eight", x.club(3), 0b11100000);
        due("seven of eight", x.club(7), 0b11101111);
        due("eight of eight", x.club(8), 255);
    }

    private void likeClubs() {
        edges.sentence("the set of greatest WORTH; of like ones the lowest");
        CandleEnds x = Isles.of(99, 0, 0, 0, 0);
        for (int k = 1; k <= 4; k++) {
            due("all are worth nothing, " + k, x.club(k), (1 << k) - 1);
        }
        Isles.owned(x, 1, 3, 0);
        Isles.owned(x, 1, 2, 1);
        due("9 and 6 are alike", x.club(2), 6);
        due("7, 11, 13, 14 are alike", x.club(3), 7);
    }

    private void settles(String what, CandleEnds x, int p, int rounds, int price) {
        due(what + ": rounds from " + p, x.settles(0, p, 0), rounds);
        due(what + ": price from " + p, x.settles(0, p, 1), price);
    }

    private void priceToBeginWith() {
        edges.sentence("from a told price p (0 .. 99) on, round by round");
        CandleEnds x = Isles.of(50, 0);
        x.candle(1, 1);
        for (int p : new int[] {-1, 100, Integer.MIN_VALUE, Integer.MAX_VALUE}) {
            due("p " + p, x.settles(0, p, 0), NONE);
            due("p " + p, x.settles(0, p, 1), NONE);
        }
        settles("the least", x, 0, 0, 0);
        settles("the most", x, 99, 49, 50);
    }

    private void waxOfPriceOrMore() {
        edges.sentence("how many HOUSES have WAX of p or more");
        CandleEnds x = Isles.of(50, 0);
        x.candle(1, 1);
        settles("just so much", x, 50, 0, 50);
        settles("one more than it has", x, 51, 1, 50);
        CandleEnds y = Isles.of(0, 0);
        y.candle(1, 1);
        settles("no wax is 0 or more", y, 0, 0, 0);
        settles("no wax", y, 7, 7, 0);
        CandleEnds z = new CandleEnds();
        z.candle(1, 1);
        settles("no houses", z, 99, 99, 0);
        settles("no houses, from 0", z, 0, 0, 0);
    }

    private void inchesWithoutOwner() {
        edges.sentence("against how many of its INCHES (burnt ones, too) have no OWNER");
        CandleEnds x = Isles.of(60, 0, 0);
        Isles.owned(x, 1, 0, NONE, NONE);
        settles("two of three", x, 59, 0, 59);
        x.light(0);
        Isles.burn(x, 0, 3);
        settles("burnt ones, too", x, 59, 0, 59);
        CandleEnds y = Isles.of(60, 0, 0);
        Isles.owned(y, 1, 0, 1);
        settles("all are owned: nobody may have so much", y, 58, 2, 60);
        settles("above all wax", y, 80, 0, 80);
    }

    private void pricesAtTheirEnds() {
        edges.sentence("(0 at least, 99 at most); as many, or p can't go on: it SETTLES");
        CandleEnds x = Isles.of(999, 0, 0);
        x.candle(1, 1);
        settles("it can't go above 99", x, 99, 0, 99);
        settles("up to 99", x, 98, 1, 99);
        settles("all the way up", x, 0, 99, 99);
        CandleEnds y = Isles.of(999, 0);
        y.candle(1, 2);
        settles("it can't go below 0", y, 0, 0, 0);
        settles("down to 0", y, 1, 1, 0);
        settles("all the way down", y, 99, 99, 0);
    }

    private void roundsAndRound() {
        edges.sentence("ROUNDS: how many times p was changed until it SETTLES; if a p comes again, it GOES ROUND");
        CandleEnds x = Isles.of(10, 0, 0);
        x.candle(1, 1);
        for (int p = 0; p < 100; p++) {
            due("two, then none, from " + p, x.settles(0, p, p % 2), OTHER);
        }
        CandleEnds y = Isles.of(99, 0, 0);
        y.candle(1, 1);
        settles("two have 99, so it can't go on", y, 5, 94, 99);
        CandleEnds z = Isles.of(98, 0, 0);
        z.candle(1, 1);
        settles("98 and 99", z, 99, OTHER, OTHER);
        CandleEnds w = Isles.of(0, 0, 0);
        w.candle(1, 1);
        settles("0 and 1", w, 0, OTHER, OTHER);
        settles("0 and 1, from 2", w, 2, OTHER, OTHER);
    }

    private void imageOfAll() {
        edges.sentence("AN IMAGE: all as it is, STEPS as well");
        CandleEnds x = Isles.of(5, 0);
        int[] xs = new int[34];
        for (int i = 0; i < 33; i++) {
            xs[i] = x.about(2);
            x.moths(1);
        }
        xs[33] = x.about(2);
        x.image();
        // Thirty steps since stand in the place of each that the image has, seven leave another one the latest.
        for (int since : new int[] {30, 7}) {
            for (int i = 0; i < 30; i++) {
                x.undo();
            }
            due("no steps", x.about(5), 0);
            x.seed(4321);
            for (int i = 0; i < since; i++) {
                x.moths(1);
            }
            due("back", x.back(), 0);
            due("all thirty steps again", x.about(5), 30);
            due("X", x.about(2), xs[33]);
            for (int i = 29; i >= 0; i--) {
                due("taken back once more", x.undo(), i);
                due("X as ahead of that one", x.about(2), xs[3 + i]);
            }
            due("no more", x.undo(), NONE);
        }
        x.back();
        due("the image stays", x.about(5), 30);
    }

    private void imageOfWhatBurns() {
        edges.sentence("AN IMAGE: all as it is");
        CandleEnds x = Isles.of(50, 0, 0);
        Tape.ruledBy(x, "burns 7; tears 2;");
        Isles.owned(x, 3, 0, NONE, 1, NONE);
        x.light(0);
        Isles.burn(x, 0, 2);
        x.image();
        Isles.burn(x, 0, 2);
        due("all is burnt", x.candleOf(0, 2), 3);
        for (int i = 0; i < 4; i++) {
            x.undo();
        }
        x.by(NONE);
        Isles.burn(x, 0, 3);
        due("another drip is the first", x.drip(0, 3), 30);
        due("back", x.back(), 2);
        int[] zero = {0, 51, 3, 14};
        int[] one = {0, 47, 0, 0};
        for (int what = 0; what < 4; what++) {
            due("house 0, " + what, x.houseOf(0, what), zero[what]);
            due("house 1, " + what, x.houseOf(1, what), one[what]);
        }
        int[] candle = {3, 4, 1, 1, 2};
        for (int what = 0; what < candle.length; what++) {
            due("candle 0, " + what, x.candleOf(0, what), candle[what]);
        }
        for (int i = 0; i < 2; i++) {
            due("its drip " + i, x.drip(i, 3), 7);
            due("its tears " + i, x.drip(i, 4), 2);
            due("its inch " + i, x.drip(i, 1), i);
        }
        x.undo();
        due("where it was", x.candleOf(0, 3), 0);
        x.back();
        due("where it is", x.candleOf(0, 3), 1);
    }

    private void imageButTheTape() {
        edges.sentence("but the tape and the latest FAULT");
        CandleEnds x = new CandleEnds();
        Tape.tell(x, "price $;");
        Tape.put(x, "out 3");
        x.image();
        Tape.put(x, ";moths 0");
        due("the tape goes on", x.about(6), 13);
        x.back();
        due("its bytes stay", x.about(6), 13);
        due("the fault stays", x.fault(0), 1);
        due("it is read", x.text(), NONE);
        x.back();
        due("the latest fault stays", x.fault(0), 2);
        due("its place", x.fault(1), 12);
        due("the tape is empty yet", x.about(6), 0);
        Tape.tell(x, "");
        x.back();
        due("the text is gone, but it was read without fault", x.fault(0), 0);
        due("and without place", x.fault(1), NONE);
        due("no text", x.about(3), 0);
    }

    private void textsBehindTheImage() {
        edges.sentence("TEXTS told behind it are gone behind going back");
        CandleEnds x = Isles.of(5, 0);
        x.candle(9, 1);
        x.by(Tape.tell(x, "price 1;"));
        x.image();
        for (int text = 1; text < 4; text++) {
            Tape.tell(x, "price " + 2 * text + ";");
        }
        x.by(3);
        due("the last rules", x.says(0, 0, 0, 0), 6);
        x.back();
        due("one text", x.about(3), 1);
        due("the text", x.about(4), 0);
        due("it rules", x.says(0, 0, 0, 0), 1);
        edges.due("no other can", x.by(1), false);
        due("none can be played", x.played(1), OTHER);
        for (int text = 1; text < 4; text++) {
            due("there is room again", Tape.tell(x, "price " + 10 * text + ";"), text);
        }
        x.by(1);
        due("of its own law", x.says(0, 0, 0, 0), 10);
        CandleEnds y = new CandleEnds();
        for (int text = 0; text < 4; text++) {
            Tape.tell(y, "");
        }
        y.back();
        due("the image of a new object has none", y.about(3), 0);
        due("four again", Tape.tell(y, "moths 1;"), 0);
    }
}
