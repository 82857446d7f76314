/** Promises 21 to 28: what is asked of the ways, odds, suppers, marriages, clubs and prices. */
public final class QuestionsTest {
    private static final int NONE = CandleEnds.NONE;
    private static final int GOES_ROUND = -2;
    private static final Check CHECK = new Check();

    private QuestionsTest() {
    }

    public static void main(String[] args) {
        promise21Whose();
        promise21WhoseOfEachState();
        promise22Odds();
        promise22OddsOfALongWay();
        promise23Blame();
        promise23BlameOfManyHandings();
        promise24Supper();
        promise24SupperByTheLaw();
        promise24SupperThatNobodyKeeps();
        promise25Married();
        promise25MarriedByTheLaw();
        promise26Worth();
        promise27Club();
        promise28Settles();
        promise28SettlesAtTheEdges();
        CHECK.close("QuestionsTest");
    }

    private static void due(String what, long got, long want) {
        CHECK.due(what, got, want);
    }

    private static CandleEnds island(int... draughts) {
        CandleEnds x = new CandleEnds();
        for (int draught : draughts) {
            x.house(draught, 999);
        }
        return x;
    }

    /** Tells a candle with these owners (NONE: none): its number. */
    private static int owned(CandleEnds x, int thick, int... owners) {
        int candle = x.candle(thick, owners.length);
        for (int inch = 0; inch < owners.length; inch++) {
            x.buy(owners[inch], candle, inch);
        }
        return candle;
    }

    private static void odds(CandleEnds x, int candle, int inch, long upper, long lower) {
        due("22: upper odds of " + candle + " " + inch, x.odds(candle, inch, false), upper);
        due("22: lower odds of " + candle + " " + inch, x.odds(candle, inch, true), lower);
    }

    private static void blame(CandleEnds x, int candle, int house, long upper, long lower) {
        due("23: upper blame of " + candle + " " + house, x.blame(candle, house, false), upper);
        due("23: lower blame of " + candle + " " + house, x.blame(candle, house, true), lower);
    }

    private static void promise21Whose() {
        CandleEnds x = island(0, 0, 0);
        Tape.ruledBy(x, "burns 10 + house * 5;");
        owned(x, 1, 1, NONE, 2, 2, 0);
        int[] from = {0, 30, 70};
        int[] house = {1, 2, 0};
        for (int i = 0; i < 3; i++) {
            due("21: at " + from[i], x.whose(0, from[i]), house[i]);
        }
        due("21: at 29", x.whose(0, 29), 1);
        due("21: at 69", x.whose(0, 69), 2);
        due("21: at 79", x.whose(0, 79), 0);
        due("21: at 80", x.whose(0, 80), NONE);
        due("21: at -1", x.whose(0, -1), NONE);
        due("21: at 9999", x.whose(0, 9999), NONE);
        due("21: at 10000", x.whose(0, 10000), NONE);
        due("21: candle 1", x.whose(1, 0), NONE);
        due("21: candle -1", x.whose(-1, 0), NONE);
        owned(x, 1, NONE, 0);
        due("21: inch 0 without owner", x.whose(1, 0), NONE);
    }

    private static void promise21WhoseOfEachState() {
        CandleEnds x = island(0, 9);
        x.candle(1, 4);
        x.buy(0, 0, 0);
        x.buy(1, 0, 2);
        x.light(0);
        due("21: lit", x.whose(0, 19), 0);
        due("21: lit, handed on", x.whose(0, 20), 1);
        x.burn(0);
        x.buy(1, 0, 1);
        due("21: the first burns where it is, whoever owns it", x.whose(0, 9), 0);
        due("21: the second at its owner's", x.whose(0, 10), 1);
        due("21: put out", x.burn(0), 2);
        due("21: as if it were lit", x.whose(0, 19), 1);
        due("21: to the end", x.whose(0, 20), NONE);
        x.light(0);
        x.burn(0);
        x.burn(0);
        due("21: burnt", x.whose(0, 0), NONE);
    }

    private static void promise22Odds() {
        CandleEnds x = island(4, 5, 0, 6);
        owned(x, 1, 0, NONE, 1, 1, 3, 2);
        odds(x, 0, 0, 1, 1);
        odds(x, 0, 1, 1, 1);
        odds(x, 0, 2, 1, 2);
        odds(x, 0, 3, 1, 2);
        odds(x, 0, 4, 1, 5);
        odds(x, 0, 5, 1, 5);
        odds(x, 0, 6, NONE, NONE);
        odds(x, 0, -1, NONE, NONE);
        odds(x, 1, 0, NONE, NONE);
        odds(x, -1, 0, NONE, NONE);
        owned(x, 1, NONE, 1);
        odds(x, 1, 1, NONE, NONE);
        Tape.ruledBy(x, "out 10 - inch;");
        odds(x, 0, 2, 1, 5);
        odds(x, 0, 4, 2, 25);
        odds(x, 0, 5, 1, 25);
        Tape.tell(x, "out inch / 4 * 10;");
        x.by(1);
        odds(x, 0, 3, 1, 1);
        odds(x, 0, 4, 0, 1);
        odds(x, 0, 5, 0, 1);
        x.by(NONE);
        x.light(0);
        x.burn(0);
        odds(x, 0, 0, NONE, NONE);
        odds(x, 0, 1, 1, 1);
        odds(x, 0, 2, 1, 2);
    }

    private static void promise22OddsOfALongWay() {
        CandleEnds x = island(1, 3);
        owned(x, 1, 0, 1, 0, 1, 0, 1, 0, 1, 0, 1, 0, 1);
        // Six handings to house 1 (7 of 10), five to house 0 (9 of 10).
        odds(x, 0, 11, 117649L * 59049L, 100000000000L);
    }

    private static void promise23Blame() {
        CandleEnds x = island(4, 5, 0, 6);
        owned(x, 1, 0, NONE, 1, 1, 3, 2);
        // Out at 1: 5/10; at 3: 5/10 * 6/10 = 3/10; in all 8/10.
        blame(x, 0, 1, 5, 8);
        blame(x, 0, 3, 3, 8);
        blame(x, 0, 2, 0, 1);
        blame(x, 0, 0, 0, 1);
        blame(x, 0, 4, NONE, NONE);
        blame(x, 0, -1, NONE, NONE);
        blame(x, 1, 0, NONE, NONE);
        owned(x, 1, NONE, 1);
        blame(x, 1, 1, NONE, NONE);
        owned(x, 1, 1, 2, 2);
        blame(x, 2, 2, NONE, NONE);
        owned(x, 1, 1, 0);
        blame(x, 3, 0, 1, 1);
        Tape.ruledBy(x, "out 10;");
        blame(x, 0, 1, 1, 1);
        blame(x, 0, 3, 0, 1);
        x.light(0);
        x.burn(0);
        due("23: put out as it comes to 1", x.burn(0), 2);
        x.by(NONE);
        blame(x, 0, 3, 1, 1);
        blame(x, 0, 1, 0, 1);
    }

    private static void promise23BlameOfManyHandings() {
        CandleEnds x = island(5, 5);
        owned(x, 1, 0, 1, 0, 1);
        // To 1: 1/2 and 1/8; to 0: 1/4; in all 7/8.
        blame(x, 0, 1, 5, 7);
        blame(x, 0, 0, 2, 7);
        CandleEnds y = island(1, 1);
        owned(y, 1, 0, 1, 0, 1, 0, 1, 0, 1, 0, 1, 0, 1);
        // Out of ten to the eleventh: all that isn't nine to the eleventh.
        long all = 100000000000L - 31381059609L;
        long toOne = 0;
        long lit = 1;
        long scale = 100000000000L;
        for (int i = 0; i < 11; i++) {
            scale /= 10;
            toOne += i % 2 == 0 ? lit * scale : 0;
            lit *= 9;
        }
        long up = y.blame(0, 1, false);
        long low = y.blame(0, 1, true);
        due("23: of like worth", up * (all / low), toOne);
        due("23: in lowest terms", all % low, 0);
        due("23: both together", up + y.blame(0, 0, false), low);
    }

    private static void seats(CandleEnds x, int set, int thick, int... order) {
        for (int i = 0; i < order.length; i++) {
            due("24: supper of " + set + ", seat " + i, x.supper(set, thick, i), order[i]);
        }
        due("24: supper of " + set + ", no seat more", x.supper(set, thick, order.length), NONE);
    }

    private static void promise24Supper() {
        CandleEnds x = island(3, 0, 9, 9, 4, 2, 1, 5);
        seats(x, 1, 1, 0);
        seats(x, 3, 1, 0, 1);
        seats(x, 7, 1, 2, 0, 1);
        seats(x, 12, 9, 2, 3);
        seats(x, 0b00111111, 5, 2, 0, 1, 3, 4, 5);
        due("24: seven guests", x.supper(0b01111111, 5, 0), NONE);
        due("24: no guest", x.supper(0, 5, 0), NONE);
        due("24: a negative set", x.supper(-1, 5, 0), NONE);
        due("24: a house that isn't told", x.supper(257, 5, 0), NONE);
        due("24: thick 0", x.supper(3, 0, 0), NONE);
        due("24: thick 10", x.supper(3, 10, 0), NONE);
        due("24: seat -1", x.supper(3, 1, -1), NONE);
        due("24: no step", x.about(5), 0);
        due("24: no candle", x.about(1), 0);
    }

    private static void promise24SupperByTheLaw() {
        CandleEnds x = island(0, 0, 0, 0);
        Tape.ruledBy(x, "out (house - inch) * (house - inch);");
        seats(x, 15, 1, 0, 1, 2, 3);
        Tape.tell(x, "out (house + inch - length) * (house + inch - length);");
        x.by(1);
        seats(x, 15, 1, 0, 3, 2, 1);
        Tape.tell(x, "out (thick-1)*(house-inch)*(house-inch) + (9-thick)*(house+inch-3)*(house+inch-3);");
        x.by(2);
        seats(x, 7, 9, 0, 1, 2);
        seats(x, 7, 1, 0, 2, 1);
        Tape.tell(x, "out (candle / 6) * (house - inch) * (house - inch);");
        x.by(3);
        for (int i = 0; i < 6; i++) {
            seats(x, 14, 1, 1, 2, 3);
            x.candle(1, 1);
        }
        seats(x, 14, 1, 3, 1, 2);
    }

    private static void promise24SupperThatNobodyKeeps() {
        CandleEnds x = island(0, 0, 0);
        Tape.ruledBy(x, "out 10;");
        seats(x, 7, 1, 0, 1, 2);
        // House 0 alone keeps nothing at inch 1, and no house keeps inch 2: all orders are like.
        Tape.tell(x, "out inch / 2 * 10 + (1 - house) * 10;");
        x.by(1);
        seats(x, 7, 1, 0, 1, 2);
        // House 0 keeps none but at the first inch.
        Tape.tell(x, "out (1 - house) * 10 + house - 1;");
        x.by(2);
        seats(x, 7, 1, 0, 1, 2);
        x.house(0, 1);
        seats(x, 14, 1, 1, 2, 3);
    }

    private static void married(CandleEnds x, int most, int... partners) {
        due("25: the two that have most", x.married(NONE), most);
        for (int i = 0; i < partners.length; i++) {
            due("25: partner of " + i, x.married(i), partners[i]);
        }
        due("25: one that isn't told", x.married(partners.length), NONE);
        due("25: -2", x.married(-2), NONE);
    }

    private static void promise25Married() {
        CandleEnds x = new CandleEnds();
        due("25: no candles", x.married(NONE), NONE);
        x.candle(1, 5);
        x.candle(1, 7);
        due("25: no houses", x.married(NONE), NONE);
        due("25: no houses, of one", x.married(0), NONE);
        x.house(0, 100);
        married(x, 120, 1, 0);
        x.candle(2, 1);
        due("25: odd many", x.married(NONE), NONE);
        due("25: odd many, of one", x.married(0), NONE);
        x.candle(2, 3);
        // 50, 70, 20, 60: 0 with 3 has 110, 1 with 2 has 90; 0 with 2 and 1 with 3 has 130.
        married(x, 110, 3, 2, 1, 0);
        x.candle(9, 1);
        x.candle(9, 1);
        // 50, 70, 20, 60, 90, 90: both of 90 with the least two; 1 with 3 is 130, 0 with 4 is 140.
        married(x, 140, 4, 3, 5, 1, 0, 2);
        x.buy(0, 0, 0);
        x.light(0);
        for (int i = 0; i < 5; i++) {
            x.burn(0);
        }
        // 0, 70, 20, 60, 90, 90: 130 can't be beaten, for 1 with 3 or one of them with a 90.
        married(x, 130, 4, 3, 5, 1, 0, 2);
        due("25: no candle is touched", x.about(10), 5);
    }

    private static void promise25MarriedByTheLaw() {
        CandleEnds x = island(2, 9);
        for (int i = 0; i < 4; i++) {
            x.candle(1, 2);
        }
        married(x, 40, 1, 0, 3, 2);
        Tape.ruledBy(x, "burns 10 + (3 - candle) * candle * 20 + draught + inch;");
        // As HOUSE 0 of draught 2: 25, 99 (52 and 53: 105), so 0 and 3 have 25, 1 and 2 have 105.
        married(x, 130, 1, 0, 3, 2);
        due("25: by the house's own burns", x.says(0, 1, 0, 1), 52);
        Tape.tell(x, "burns 10 + candle * 20;");
        x.by(1);
        // 20, 60, 100, 140: 0 with 3 and 1 with 2.
        married(x, 160, 3, 2, 1, 0);
    }

    private static void promise26Worth() {
        CandleEnds x = island(0, 0, 0);
        due("26: the empty set", x.worth(0), 0);
        owned(x, 1, 0, 1, 1, NONE, 2, 0);
        owned(x, 1, 1, 0);
        due("26: 0 and 1", x.worth(3), 3);
        due("26: 1 alone, both its own", x.worth(2), 1);
        due("26: 0 alone", x.worth(1), 0);
        due("26: 0 and 2", x.worth(5), 1);
        due("26: all", x.worth(7), 4);
        due("26: a house that isn't told", x.worth(8), NONE);
        due("26: negative", x.worth(-1), NONE);
        x.light(1);
        x.burn(1);
        x.burn(1);
        due("26: burnt or not", x.worth(3), 3);
        due("26: without houses", new CandleEnds().worth(0), 0);
        due("26: a set without houses", new CandleEnds().worth(1), NONE);
    }

    private static void promise27Club() {
        CandleEnds x = new CandleEnds();
        due("27: without houses", x.club(1), NONE);
        x = island(0, 0, 0, 0);
        due("27: all like", x.club(2), 3);
        owned(x, 1, 1, 2, 1);
        owned(x, 1, 0, 3, 0);
        due("27: of like ones the lowest", x.club(2), 6);
        owned(x, 1, 3, 3, 0);
        due("27: one of most", x.club(1), 8);
        due("27: two of most", x.club(2), 9);
        due("27: three of most", x.club(3), 11);
        due("27: four", x.club(4), 15);
        due("27: five", x.club(5), NONE);
        due("27: 0", x.club(0), NONE);
        due("27: -1", x.club(-1), NONE);
        CandleEnds y = island(0, 0, 0, 0, 0, 0, 0, 0);
        owned(y, 1, 7, 7, 6);
        due("27: the highest of eight", y.club(1), 128);
        due("27: the highest two of eight", y.club(2), 192);
        due("27: eight", y.club(8), 255);
    }

    private static void settles(CandleEnds x, int candle, int p, int rounds, int price) {
        due("28: rounds of " + candle + " from " + p, x.settles(candle, p, 0), rounds);
        due("28: price of " + candle + " from " + p, x.settles(candle, p, 1), price);
    }

    private static void promise28Settles() {
        CandleEnds x = new CandleEnds();
        x.house(0, 10);
        x.house(0, 20);
        x.house(0, 30);
        x.candle(1, 2);
        x.candle(1, 4);
        // Two have wax of 11 .. 20, against two inches.
        settles(x, 0, 11, 0, 11);
        settles(x, 0, 20, 0, 20);
        settles(x, 0, 5, 6, 11);
        settles(x, 0, 25, 5, 20);
        // Never four: down to 0.
        settles(x, 1, 3, 3, 0);
        settles(x, 1, 0, 0, 0);
        x.candle(1, 3);
        x.buy(2, 2, 0);
        x.buy(2, 2, 1);
        x.light(2);
        x.burn(2);
        x.burn(2);
        x.burn(2);
        due("28: it is burnt", x.candleOf(2, 2), 3);
        // One inch has no owner, burnt though it is; wax 10, 20, 28.
        settles(x, 2, 21, 0, 21);
        settles(x, 2, 30, 2, 28);
        due("28: what 2", x.settles(0, 5, 2), NONE);
        due("28: what -1", x.settles(0, 5, -1), NONE);
        due("28: p -1", x.settles(0, -1, 0), NONE);
        due("28: p 100", x.settles(0, 100, 0), NONE);
        due("28: candle 3", x.settles(3, 5, 0), NONE);
        due("28: candle -1", x.settles(-1, 5, 0), NONE);
    }

    private static void promise28SettlesAtTheEdges() {
        CandleEnds x = new CandleEnds();
        x.candle(1, 1);
        settles(x, 0, 99, 99, 0);
        x.house(0, 999);
        x.house(0, 999);
        settles(x, 0, 0, 99, 99);
        settles(x, 0, 99, 0, 99);
        CandleEnds y = new CandleEnds();
        y.house(0, 10);
        y.house(0, 10);
        y.candle(1, 1);
        for (int p = 0; p < 100; p += 9) {
            settles(y, 0, p, GOES_ROUND, GOES_ROUND);
        }
        due("28: another what of one that goes round", y.settles(0, 10, 3), NONE);
    }
}
