/** Islands that tests begin with. */
final class Isles {
    private Isles() {
    }

    /** Houses of these draughts, with so much WAX each. */
    static CandleEnds of(int wax, int... draughts) {
        CandleEnds x = new CandleEnds();
        for (int draught : draughts) {
            x.house(draught, wax);
        }
        return x;
    }

    /** Tells a candle and buys its inches for these owners (NONE: none): its number. */
    static int owned(CandleEnds x, int thick, int... owners) {
        int candle = x.candle(thick, owners.length);
        for (int inch = 0; inch < owners.length; inch++) {
            x.buy(owners[inch], candle, inch);
        }
        return candle;
    }

    /** Burns so many inches, one behind the other: STATE behind the last. */
    static int burn(CandleEnds x, int candle, int inches) {
        int state = CandleEnds.NONE;
        for (int i = 0; i < inches; i++) {
            state = x.burn(candle);
        }
        return state;
    }

    /** Candle 0 of two inches is lit at house 0, which owns inch 0 and has no draught, but no inch is burnt. */
    static CandleEnds lit(int thick, int wax) {
        CandleEnds x = of(wax, 0);
        owned(x, thick, 0, CandleEnds.NONE);
        x.light(0);
        return x;
    }

    /** Candle 0, thick 1, of three inches is OUT at house 1 (draught 9), which owns inches 1 and 2. */
    static CandleEnds out(int waxOfZero, int waxOfOne) {
        CandleEnds x = new CandleEnds();
        x.house(0, waxOfZero);
        x.house(9, waxOfOne);
        owned(x, 1, 0, 1, 1);
        x.light(0);
        x.burn(0);
        return x;
    }
}
