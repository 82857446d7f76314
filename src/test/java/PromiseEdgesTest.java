import java.io.IOException;

/** The edges that the promises name under their own headings: what each call refuses, and what it answers then. */
public final class PromiseEdgesTest {
    private static final int NONE = CandleEnds.NONE;
    private static final int OTHER = -2;
    private static final int MIN = Integer.MIN_VALUE;
    private static final int MAX = Integer.MAX_VALUE;
    private static final int[] FAR = {MIN, MIN + 1, -1000, -2, 1000000, MAX - 1, MAX};

    private final Edges edges = new Edges();

    private PromiseEdgesTest() throws IOException {
    }

    public static void main(String[] args) throws IOException {
        PromiseEdgesTest t = new PromiseEdgesTest();
        t.constantNone();
        t.promise1();
        t.promise2();
        t.promise3();
        t.promise4();
        t.promise4Refused();
        t.promise5();
        t.promise5Refused();
        t.promise6();
        t.promise6Refused();
        t.promise7();
        t.promise7Refused();
        t.promise8();
        t.promise8Refused();
        t.promise9();
        t.promise9Refused();
        t.promise10();
        t.promise10Refused();
        t.promise11();
        t.promise11Refused();
        t.promise12();
        t.promise12Refused();
        t.promise13();
        t.promise13Refused();
        t.promise14();
        t.promise14Refused();
        t.promise15();
        t.promise15Refused();
        t.promise16();
        t.promise16Refused();
        t.promise17();
        t.promise18();
        t.promise19();
        t.promise20();
        t.promise21();
        t.promise22();
        t.promise23();
        t.promise24();
        t.promise25();
        t.promise26();
        t.promise27();
        t.promise28();
        t.promise29();
        t.promise30();
        t.promise31();
        t.edges.close("PromiseEdgesTest");
    }

    private void due(String what, long got, long want) {
        edges.due(what, got, want);
    }

    /** Two houses, candle 0 lit with two inches burnt of four, candle 1 unlit; a law, a drip on debt, a tape. */
    private static CandleEnds busy() {
        CandleEnds x = Isles.of(40, 0, 2);
        Isles.owned(x, 5, 0, NONE, 1, NONE);
        Isles.owned(x, 2, 1, 0);
        Tape.ruledBy(x, "price thick; tears 1;");
        x.light(0);
        Isles.burn(x, 0, 2);
        Tape.put(x, "out");
        return x;
    }

    private void constantNone() {
        edges.sentence("`NONE = -1`: None.");
        due("NONE", CandleEnds.NONE, -1);
    }

    private void promise1() {
        edges.sentence("`CandleEnds()`: No HOUSES; THE IMAGE is this.");
        CandleEnds x = new CandleEnds();
        due("no houses", x.about(0), 0);
        due("no candles", x.about(1), 0);
        due("going back at once", x.back(), 0);
        due("X", x.about(2), 5);
        CandleEnds y = busy();
        due("drips", y.drip(NONE, 0), 2);
        due("back behind it all", y.back(), 0);
        int[] first = {0, 0, 5, 0, NONE, 0};
        for (int what = 0; what < first.length; what++) {
            due("about " + what, y.about(what), first[what]);
        }
        for (int state = 0; state < 4; state++) {
            due("candles of state " + state, y.about(10 + state), 0);
        }
        due("nothing to take back", y.undo(), NONE);
        due("houses begin again", y.house(1, 1), 0);
        due("candles, too", y.candle(1, 1), 0);
        due("its first inch has no owner", y.candleOf(0, 10), NONE);
        due("no debt", y.houseOf(0, 2), 0);
        due("no light", y.houseOf(0, 3), 0);
    }

    private void promise2() {
        edges.sentence("A HOUSE: its number. NONE for others, or if there are 8.");
        for (int far : FAR) {
            edges.refusedOn("draught " + far, PromiseEdgesTest::busy, b -> b.house(far, 0), NONE);
            edges.refusedOn("wax " + far, PromiseEdgesTest::busy, b -> b.house(0, far), NONE);
        }
        CandleEnds x = busy();
        due("it goes on from there", x.house(9, 999), 2);
        CandleEnds y = Isles.of(1, 1, 1, 1, 1, 1, 1, 1);
        due("the eighth", y.house(0, 0), 7);
        edges.refused("there are 8", y, () -> y.house(0, 0), NONE);
        edges.refused("there are 8, and others", y, () -> y.house(10, 0), NONE);
        due("an image without houses has room", y.back(), 0);
        due("again", y.house(0, 0), 0);
    }

    private void promise3() {
        edges.sentence("A CANDLE: its number. NONE for others, or if there are 6.");
        for (int far : FAR) {
            edges.refusedOn("thick " + far, PromiseEdgesTest::busy, b -> b.candle(far, 1), NONE);
            edges.refusedOn("length " + far, PromiseEdgesTest::busy, b -> b.candle(1, far), NONE);
        }
        CandleEnds x = busy();
        due("it goes on from there", x.candle(9, 12), 2);
        CandleEnds y = new CandleEnds();
        for (int i = 0; i < 6; i++) {
            due("without any house", y.candle(9, 1 + i), i);
        }
        edges.refused("there are 6", y, () -> y.candle(1, 1), NONE);
        edges.refused("there are 6, and others", y, () -> y.candle(0, 1), NONE);
    }

    private void promise4() {
        edges.sentence("X is SEED (0 .. 9999) * 4 + 5: true.");
        CandleEnds x = new CandleEnds();
        for (int seed : new int[] {9999, 9998, 7502, 7501, 1, 0}) {
            edges.due("seed " + seed, x.seed(seed), true);
            due("X of seed " + seed, x.about(2), seed * 4 + 5);
        }
        due("it is no step", x.about(5), 0);
    }

    private void promise4Refused() {
        edges.sentence("False for others.");
        CandleEnds x = new CandleEnds();
        x.seed(77);
        edges.refused("10000", x, () -> x.seed(10000) ? 1 : 0, 0);
        edges.refused("-1", x, () -> x.seed(-1) ? 1 : 0, 0);
        for (int far : FAR) {
            edges.refused("seed " + far, x, () -> x.seed(far) ? 1 : 0, 0);
        }
    }

    private void promise5() {
        edges.sentence("BOUGHT: WAX that is left to the HOUSE.");
        CandleEnds x = new CandleEnds();
        x.house(0, 999);
        x.house(0, 9);
        x.candle(9, 2);
        due("of the most", x.buy(0, 0, 0), 990);
        due("nothing is left", x.buy(1, 0, 1), 0);
    }

    private void promise5Refused() {
        edges.sentence("`int buy(int house, int candle, int inch)`: BOUGHT: WAX that is left to the HOUSE. NONE, if it can't be.");
        CandleEnds none = new CandleEnds();
        edges.refused("nothing is told", none, () -> none.buy(0, 0, 0), NONE);
        none.house(0, 9);
        edges.refused("no candle", none, () -> none.buy(0, 0, 0), NONE);
        CandleEnds only = new CandleEnds();
        only.candle(1, 1);
        edges.refused("no house", only, () -> only.buy(0, 0, 0), NONE);
        edges.refused("house NONE", only, () -> only.buy(NONE, 0, 0), NONE);
        // Candle 0 has four inches, of which two are burnt and 2 is owned, 3 is free.
        int[][] others = {{-1, 0, 3}, {2, 0, 3}, {0, -1, 0}, {0, 2, 0}, {0, 0, -1}, {0, 0, 4}, {0, 0, 11}, {0, 0, 1},
            {0, 0, 0}, {0, 0, 2}, {0, 1, 2}};
        for (int[] o : others) {
            String what = "buy " + o[0] + " " + o[1] + " " + o[2];
            edges.refusedOn(what, PromiseEdgesTest::busy, b -> b.buy(o[0], o[1], o[2]), NONE);
        }
        CandleEnds x = busy();
        x.candle(1, 2);
        for (int far : FAR) {
            due("house " + far, x.buy(far, 2, 0), NONE);
            due("candle " + far, x.buy(0, far, 0), NONE);
            due("inch " + far, x.buy(0, 2, far), NONE);
        }
        due("no step of all these", x.about(5), 7);
    }

    private void promise6() {
        edges.sentence("LIGHTED: WHERE.");
        CandleEnds x = Isles.of(9, 0, 0, 0, 0, 0, 0, 0, 9);
        Isles.owned(x, 1, 0, 7);
        due("the first house", x.light(0), 0);
        x.burn(0);
        due("the last house, again", x.light(0), 7);
    }

    private void promise6Refused() {
        edges.sentence("`int light(int candle)`: LIGHTED: WHERE. NONE, if it can't be.");
        CandleEnds none = new CandleEnds();
        edges.refused("nothing is told", none, () -> none.light(0), NONE);
        for (int candle : new int[] {-1, 0, 2, 6}) {
            edges.refusedOn("candle " + candle, PromiseEdgesTest::busy, b -> b.light(candle), NONE);
        }
        CandleEnds x = busy();
        x.candle(1, 1);
        edges.refused("one without owners", x, () -> x.light(2), NONE);
        for (int far : FAR) {
            due("candle " + far, x.light(far), NONE);
        }
        due("the unlit one", x.light(1), 1);
    }

    private void promise7() {
        edges.sentence("An INCH BURNS: STATE then.");
        CandleEnds x = Isles.of(50, 0, 9);
        Isles.owned(x, 1, 0, 0, 1);
        x.light(0);
        due("lit", x.burn(0), 1);
        due("out", x.burn(0), 2);
        x.light(0);
        due("burnt", x.burn(0), 3);
    }

    private void promise7Refused() {
        edges.sentence("`int burn(int candle)`: An INCH BURNS: STATE then. NONE, if it can't be.");
        CandleEnds none = new CandleEnds();
        edges.refused("nothing is told", none, () -> none.burn(0), NONE);
        for (int candle : new int[] {-1, 1, 2, 6}) {
            edges.refusedOn("candle " + candle, PromiseEdgesTest::busy, b -> b.burn(candle), NONE);
        }
        CandleEnds x = busy();
        for (int far : FAR) {
            due("candle " + far, x.burn(far), NONE);
        }
        due("the lit one", x.burn(0), 1);
    }

    private void promise8() {
        edges.sentence("REPAID: DEBT then.");
        CandleEnds x = Isles.lit(9, 30);
        Isles.burn(x, 0, 2);
        due("one", x.repay(0, 1), 8);
        due("the rest", x.repay(0, 8), 0);
        due("wax", x.houseOf(0, 1), 12);
        due("two steps", x.about(5), 6);
    }

    private void promise8Refused() {
        edges.sentence("`int repay(int house, int k)`: REPAID: DEBT then. NONE, if it can't be.");
        CandleEnds none = new CandleEnds();
        edges.refused("nothing is told", none, () -> none.repay(0, 1), NONE);
        CandleEnds x = busy();
        due("debt", x.houseOf(0, 2), 5);
        edges.refused("house -1", x, () -> x.repay(-1, 1), NONE);
        edges.refused("house 2", x, () -> x.repay(2, 1), NONE);
        edges.refused("k 0", x, () -> x.repay(0, 0), NONE);
        edges.refused("k 6", x, () -> x.repay(0, 6), NONE);
        edges.refused("no debt", x, () -> x.repay(1, 1), NONE);
        for (int far : FAR) {
            due("house " + far, x.repay(far, 1), NONE);
            due("k " + far, x.repay(0, far), NONE);
        }
        due("no step of all these", x.about(5), 7);
    }

    private void promise9() {
        edges.sentence("MOTHS: how much WAX they took.");
        CandleEnds x = busy();
        // X is 978 behind one handing: it goes 978, 25090, .. : by two 0, 0.
        due("X", x.about(2), 978);
        due("one", x.moths(1), 1);
        due("wax of house 0", x.houseOf(0, 1), 34);
        due("debt of house 0", x.houseOf(0, 2), 4);
        due("thirty take what is owed at most", x.moths(30), 4);
        due("nothing is owed", x.moths(30), 0);
        due("it is a step all the same", x.about(5), 10);
    }

    private void promise9Refused() {
        edges.sentence("NONE for others, and without HOUSES.");
        CandleEnds none = new CandleEnds();
        for (int n : new int[] {1, 30, 0, 31}) {
            edges.refused(n + " without houses", none, () -> none.moths(n), NONE);
        }
        CandleEnds x = busy();
        for (int n : new int[] {0, -1, 31}) {
            edges.refused("n " + n, x, () -> x.moths(n), NONE);
        }
        for (int far : FAR) {
            due("n " + far, x.moths(far), NONE);
        }
        due("nothing was drawn", x.about(2), 978);
    }

    private void promise10() {
        edges.sentence("Twenty bytes come behind the tape, the highest of a first: how many it has.");
        CandleEnds x = new CandleEnds();
        // "tears 1" "2;" with blanks: each int gives its highest byte first, all five in their order.
        due("twenty", x.feed(0x74656172, 0x73202020, 0x20202020, 0x20202020, 0x20202031), 20);
        due("forty", x.feed(0x323b2020, 0x20202020, 0x20202020, 0x20202020, 0x20202020), 40);
        due("one token over both", x.text(), 0);
        x.house(0, 0);
        x.candle(1, 1);
        x.by(0);
        due("12", x.says(0, 0, 0, 2), 12);
        due("bytes of 255", x.feed(-1, -1, -1, -1, -1), 20);
        due("none of them is a token", x.text(), NONE);
        due("the first of them", x.fault(1), 0);
        for (int i = 1; i <= 15; i++) {
            due("up to 300", x.feed(MIN, MAX, 0, -1, 1), 20 * i);
        }
        x.end(0);
        due("behind an empty tape", x.feed(0x20202020, 0x20202020, 0x20202020, 0x20202020, 0x20202024), 20);
        x.text();
        due("the last of the twenty", x.fault(1), 19);
    }

    private void promise10Refused() {
        edges.sentence("NONE, and none come, if there would be more than 300.");
        for (int bytes : new int[] {300, 299, 281}) {
            CandleEnds x = new CandleEnds();
            Tape.put(x, " ".repeat(bytes));
            edges.refused("behind " + bytes, x, () -> x.feed(-1, -1, -1, -1, -1), NONE);
            due("none came: it reads yet", x.text(), 0);
        }
        CandleEnds y = new CandleEnds();
        Tape.put(y, " ".repeat(280));
        due("behind 280", y.feed(0, 0, 0, 0, 0), 300);
        due("the first that came", y.text(), NONE);
        due("its place", y.fault(1), 280);
    }

    private void promise11() {
        edges.sentence("The tape has its first n bytes alone: n.");
        CandleEnds x = new CandleEnds();
        due("0 of none", x.end(0), 0);
        Tape.put(x, "tears 98765432109876");
        due("all", x.end(20), 20);
        due("fewer", x.end(8), 8);
        Tape.put(x, ";");
        due("the first 8 alone", x.text(), 0);
        x.house(0, 0);
        x.candle(1, 1);
        x.by(0);
        due("98", x.says(0, 0, 0, 2), 98);
        Tape.put(x, "out 10");
        due("one byte", x.end(1), 1);
        due("none", x.end(0), 0);
        due("the tape", x.about(6), 0);
    }

    private void promise11Refused() {
        edges.sentence("NONE, and nothing is done, if it has not so many, or n is below 0.");
        CandleEnds x = new CandleEnds();
        edges.refused("1 of none", x, () -> x.end(1), NONE);
        Tape.put(x, "out 3;out 4;");
        for (int n : new int[] {13, 20, 300, 301, -1, MIN, MAX}) {
            edges.refused("n " + n, x, () -> x.end(n), NONE);
        }
        x.end(6);
        edges.refused("what was cut doesn't come again", x, () -> x.end(7), NONE);
        due("the first six", x.text(), 0);
        edges.refused("the tape is empty behind text", x, () -> x.end(1), NONE);
    }

    private void promise12() {
        edges.sentence("The tape (empty then) is a TEXT: its number.");
        CandleEnds x = new CandleEnds();
        due("an empty tape", x.text(), 0);
        Tape.put(x, "moths 1;");
        due("a clause", x.text(), 1);
        due("empty then", x.about(6), 0);
        due("texts", x.about(3), 2);
        due("the empty one behind it", x.text(), 2);
        due("it is no step", x.about(5), 0);
    }

    private void promise12Refused() {
        edges.sentence("NONE: it has a FAULT; or (the tape stays) there are 4.");
        CandleEnds x = new CandleEnds();
        Tape.put(x, "moths 0;");
        due("a fault", x.text(), NONE);
        due("no text", x.about(3), 0);
        due("the tape is empty, too", x.about(6), 0);
        for (int i = 0; i < 4; i++) {
            due("number", Tape.tell(x, ""), i);
        }
        edges.refused("there are 4, the tape is empty", x, x::text, NONE);
        Tape.put(x, "moths 0;");
        edges.refused("there are 4, and the tape has a fault", x, x::text, NONE);
        x.back();
        due("behind going back the tape that stayed is read", x.text(), NONE);
        due("its fault", x.fault(0), 2);
    }

    private void promise13() {
        edges.sentence("Of the latest text that was read: 0 its FAULT (0 without), 1 its place (NONE without).");
        CandleEnds x = new CandleEnds();
        String[] faulty = {"$", "moths 0;", "price (((((((((1;", "out 1;out", "out wax", "burn 0;".repeat(24) + "burn"};
        int[] places = {0, 6, 14, 6, 4, 168};
        for (int i = 0; i < faulty.length; i++) {
            Tape.tell(x, faulty[i]);
            due("fault", x.fault(0), i + 1);
            due("place", x.fault(1), places[i]);
        }
        Tape.tell(x, "out 1;");
        due("without", x.fault(0), 0);
        due("without place", x.fault(1), NONE);
        Tape.tell(x, "out 1");
        for (int i = 0; i < 3; i++) {
            Tape.tell(x, "");
        }
        due("the latest", x.fault(0), 0);
        Tape.tell(x, "$");
        due("with 4 texts nothing is read", x.fault(0), 0);
    }

    private void promise13Refused() {
        edges.sentence("NONE for others, and ahead of any.");
        CandleEnds x = new CandleEnds();
        for (int what = -1; what < 3; what++) {
            due("ahead of any " + what, x.fault(what), NONE);
        }
        Tape.put(x, "$");
        due("a tape that isn't read", x.fault(0), NONE);
        x.text();
        due("read", x.fault(0), 1);
        due("2", x.fault(2), NONE);
        due("-1", x.fault(-1), NONE);
        for (int far : FAR) {
            due("what " + far, x.fault(far), NONE);
        }
    }

    private void promise14() {
        edges.sentence("THE TEXT (NONE: none): true.");
        CandleEnds x = new CandleEnds();
        edges.due("none, without texts", x.by(NONE), true);
        for (int i = 0; i < 4; i++) {
            Tape.tell(x, "");
        }
        edges.due("the first", x.by(0), true);
        edges.due("the last", x.by(3), true);
        due("it is", x.about(4), 3);
        edges.due("none", x.by(NONE), true);
        due("none is", x.about(4), NONE);
        due("it is no step", x.about(5), 0);
    }

    private void promise14Refused() {
        edges.sentence("`boolean by(int text)`: THE TEXT (NONE: none): true. False for others.");
        CandleEnds x = new CandleEnds();
        edges.refused("0 of none", x, () -> x.by(0) ? 1 : 0, 0);
        x.by(Tape.tell(x, ""));
        for (int text : new int[] {1, 3, 4, -2}) {
            edges.refused("text " + text, x, () -> x.by(text) ? 1 : 0, 0);
        }
        for (int far : FAR) {
            edges.refused("text " + far, x, () -> x.by(far) ? 1 : 0, 0);
        }
    }

    private void promise15() {
        edges.sentence("PLAYED by a TEXT: NONE: all is done; else the number of the CLAUSE that can't be.");
        CandleEnds x = new CandleEnds();
        Tape.tell(x, "");
        due("nothing", x.played(0), NONE);
        Tape.tell(x, "out 1;price 1;moths 30;");
        due("moths without houses", x.played(1), 2);
        x.house(0, 0);
        due("moths with a house", x.played(1), NONE);
        for (int i = 0; i < 2; i++) {
            Tape.tell(x, "moths 1;".repeat(24));
        }
        due("all of 24", x.played(3), NONE);
        due("24 more", x.played(3), NONE);
        due("30 steps", x.about(5), 30);
    }

    private void promise15Refused() {
        edges.sentence("-2 for others.");
        CandleEnds x = new CandleEnds();
        edges.refused("0 of none", x, () -> x.played(0), OTHER);
        Tape.tell(x, "");
        for (int text : new int[] {-1, 1, 3, 4}) {
            edges.refused("text " + text, x, () -> x.played(text), OTHER);
        }
        for (int far : FAR) {
            edges.refused("text " + far, x, () -> x.played(far), OTHER);
        }
    }

    private void promise16() {
        edges.sentence("The latest STEP is taken back: how many can be yet.");
        CandleEnds x = Isles.of(9, 0);
        x.moths(1);
        due("the only one", x.undo(), 0);
        for (int i = 0; i < 31; i++) {
            x.moths(1);
        }
        due("of 31", x.undo(), 29);
        x.moths(1);
        due("full again", x.about(5), 30);
        x.moths(1);
        due("of 30", x.undo(), 29);
    }

    private void promise16Refused() {
        edges.sentence("`int undo()`: The latest STEP is taken back: how many can be yet. NONE: there is none.");
        CandleEnds x = new CandleEnds();
        edges.refused("a new object", x, x::undo, NONE);
        x.house(0, 9);
        x.candle(1, 1);
        x.seed(9);
        x.text();
        edges.refused("nothing that was done is a step", x, x::undo, NONE);
        x.moths(1);
        x.undo();
        edges.refused("taken back already", x, x::undo, NONE);
        due("X as ahead of it", x.about(2), 41);
    }

    private void promise17() {
        edges.sentence("Of a HOUSE: 0 DRAUGHT, 1 WAX, 2 DEBT, 3 LIGHT. -2 for others.");
        CandleEnds none = new CandleEnds();
        due("none told", none.houseOf(0, 0), OTHER);
        due("house NONE", none.houseOf(NONE, 0), OTHER);
        CandleEnds x = busy();
        int[] want = {0, 40 - 5 - 2 + 2, 5, 100};
        for (int what = 0; what < 4; what++) {
            due("what " + what, x.houseOf(0, what), want[what]);
            due("house 2, what " + what, x.houseOf(2, what), OTHER);
            due("house -1, what " + what, x.houseOf(-1, what), OTHER);
        }
        due("what 4", x.houseOf(0, 4), OTHER);
        due("what -1", x.houseOf(0, -1), OTHER);
        for (int far : FAR) {
            due("house " + far, x.houseOf(far, 0), OTHER);
            due("what " + far, x.houseOf(0, far), OTHER);
        }
    }

    private void promise18() {
        edges.sentence("Of a CANDLE: 0 THICK, 1 LENGTH, 2 STATE, 3 WHERE (NONE), 4 NEXT, 10 + inch: its OWNER (NONE)."
            + " -2 for others.");
        CandleEnds none = new CandleEnds();
        due("none told", none.candleOf(0, 0), OTHER);
        due("candle NONE", none.candleOf(NONE, 0), OTHER);
        CandleEnds x = busy();
        int[] want = {5, 4, 1, 1, 2, OTHER, OTHER, OTHER, OTHER, OTHER, 0, NONE, 1, NONE, OTHER};
        int[] unlit = {2, 2, 0, NONE, 0, OTHER, OTHER, OTHER, OTHER, OTHER, 1, 0, OTHER, OTHER, OTHER};
        for (int what = 0; what < want.length; what++) {
            due("what " + what, x.candleOf(0, what), want[what]);
            due("unlit, what " + what, x.candleOf(1, what), unlit[what]);
            due("candle 2, what " + what, x.candleOf(2, what), OTHER);
            due("candle -1, what " + what, x.candleOf(-1, what), OTHER);
        }
        due("what -1", x.candleOf(0, -1), OTHER);
        due("what 21", x.candleOf(0, 21), OTHER);
        for (int far : FAR) {
            due("candle " + far, x.candleOf(far, 0), OTHER);
            due("what " + far, x.candleOf(0, far), OTHER);
        }
    }

    private void promise19() {
        edges.sentence("What the law says of a HOUSE and an INCH of a CANDLE: 0 price, 1 burns, 2 tears, 3 out. -2 for others.");
        CandleEnds none = new CandleEnds();
        due("none told", none.says(0, 0, 0, 0), OTHER);
        CandleEnds x = busy();
        int[] want = {5, 50, 1, 2};
        for (int what = 0; what < 4; what++) {
            due("what " + what, x.says(1, 0, 3, what), want[what]);
            due("burnt ones, too, what " + what, x.says(1, 0, 0, what), want[what]);
            due("house 2, what " + what, x.says(2, 0, 3, what), OTHER);
            due("house -1, what " + what, x.says(-1, 0, 3, what), OTHER);
            due("candle 2, what " + what, x.says(1, 2, 0, what), OTHER);
            due("candle -1, what " + what, x.says(1, -1, 0, what), OTHER);
            due("inch 4, what " + what, x.says(1, 0, 4, what), OTHER);
            due("inch -1, what " + what, x.says(1, 0, -1, what), OTHER);
        }
        due("what 4", x.says(1, 0, 3, 4), OTHER);
        due("what -1", x.says(1, 0, 3, -1), OTHER);
        for (int far : FAR) {
            due("house " + far, x.says(far, 0, 3, 0), OTHER);
            due("candle " + far, x.says(1, far, 3, 0), OTHER);
            due("inch " + far, x.says(1, 0, far, 0), OTHER);
            due("what " + far, x.says(1, 0, 3, far), OTHER);
        }
    }

    private void promise20() {
        edges.sentence("DRIPS: how many (i NONE); the i-th: 0 CANDLE, 1 INCH, 2 HOUSE, 3 minutes, 4 tears."
            + " -2 if there is none such, and for others.");
        CandleEnds none = new CandleEnds();
        due("how many", none.drip(NONE, 0), 0);
        due("none such", none.drip(0, 0), OTHER);
        CandleEnds x = busy();
        int[][] want = {{0, 0, 0, 50, 1}, {0, 1, 0, 50, 1}};
        for (int what = 0; what < 5; what++) {
            due("the first, " + what, x.drip(0, what), want[0][what]);
            due("the last, " + what, x.drip(1, what), want[1][what]);
            due("behind it, " + what, x.drip(2, what), OTHER);
            due("-2, " + what, x.drip(-2, what), OTHER);
        }
        due("how many", x.drip(NONE, 0), 2);
        due("what 5", x.drip(1, 5), OTHER);
        due("what -1", x.drip(1, -1), OTHER);
        for (int far : FAR) {
            due("i " + far, x.drip(far, 0), OTHER);
            due("what " + far, x.drip(0, far), OTHER);
        }
        x.undo();
        due("one that was taken back is gone", x.drip(1, 0), OTHER);
    }

    private void promise21() {
        edges.sentence("WHOSE. NONE: it is burnt by then, it has no WAY, and for others.");
        CandleEnds none = new CandleEnds();
        due("none told", none.whose(0, 0), NONE);
        CandleEnds x = busy();
        x.candle(1, 1);
        due("now", x.whose(0, 0), 1);
        due("its last minute", x.whose(0, 99), 1);
        due("burnt by then", x.whose(0, 100), NONE);
        due("no way", x.whose(2, 0), NONE);
        due("candle 3", x.whose(3, 0), NONE);
        due("candle -1", x.whose(-1, 0), NONE);
        due("minute -1", x.whose(0, -1), NONE);
        for (int far : FAR) {
            due("candle " + far, x.whose(far, 0), NONE);
            due("minute " + far, x.whose(0, far), NONE);
        }
    }

    private void promise22() {
        edges.sentence("ODDS: the upper (low false), the lower one (low true). NONE, if it has no WAY, and for others"
            + " (INCHES ahead of NEXT).");
        CandleEnds none = new CandleEnds();
        CandleEnds x = busy();
        x.candle(1, 1);
        due("upper", x.odds(1, 1, false), 1);
        x.by(NONE);
        x.house(3, 9);
        Isles.owned(x, 1, 0, 2);
        due("upper of 7 by 10", x.odds(3, 1, false), 7);
        due("lower of 7 by 10", x.odds(3, 1, true), 10);
        for (boolean low : new boolean[] {false, true}) {
            due("none told", none.odds(0, 0, low), NONE);
            due("next", x.odds(0, 2, low), 1);
            due("ahead of next", x.odds(0, 1, low), NONE);
            due("far ahead of next", x.odds(0, 0, low), NONE);
            due("the last", x.odds(0, 3, low), 1);
            due("behind it", x.odds(0, 4, low), NONE);
            due("inch -1", x.odds(0, -1, low), NONE);
            due("no way", x.odds(2, 0, low), NONE);
            due("candle 4", x.odds(4, 0, low), NONE);
            due("candle -1", x.odds(-1, 0, low), NONE);
            for (int far : FAR) {
                due("candle " + far, x.odds(far, 0, low), NONE);
                due("inch " + far, x.odds(1, far, low), NONE);
            }
        }
    }

    private void promise23() {
        edges.sentence("BLAME: the upper (low false), the lower one (low true). NONE, if it has no WAY, or can't be put out,"
            + " and for others.");
        CandleEnds none = new CandleEnds();
        CandleEnds x = Isles.of(40, 5, 2, 3);
        Isles.owned(x, 5, 0, 1, 2);
        Isles.owned(x, 5, 0, 0);
        x.candle(1, 1);
        // 20 and 24 of 100.
        due("upper", x.blame(0, 1, false), 5);
        due("lower", x.blame(0, 1, true), 11);
        due("upper, behind it", x.blame(0, 2, false), 6);
        due("never: upper", x.blame(0, 0, false), 0);
        due("never: lower", x.blame(0, 0, true), 1);
        for (boolean low : new boolean[] {false, true}) {
            due("none told", none.blame(0, 0, low), NONE);
            due("can't be put out", x.blame(1, 0, low), NONE);
            due("no way", x.blame(2, 0, low), NONE);
            due("house 3", x.blame(0, 3, low), NONE);
            due("house -1", x.blame(0, -1, low), NONE);
            due("candle 3", x.blame(3, 0, low), NONE);
            due("candle -1", x.blame(-1, 0, low), NONE);
            for (int far : FAR) {
                due("candle " + far, x.blame(far, 0, low), NONE);
                due("house " + far, x.blame(0, far, low), NONE);
            }
        }
    }

    private void promise24() {
        edges.sentence("SUPPER: the i-th HOUSE. NONE if there is none such, and for others.");
        CandleEnds none = new CandleEnds();
        due("none told", none.supper(1, 1, 0), NONE);
        due("an empty set", none.supper(0, 1, 0), NONE);
        CandleEnds x = busy();
        due("the first", x.supper(3, 9, 0), 1);
        due("the last", x.supper(3, 1, 1), 0);
        due("none such", x.supper(3, 1, 2), NONE);
        due("i -1", x.supper(3, 1, -1), NONE);
        due("an empty set again", x.supper(0, 1, 0), NONE);
        due("house 2", x.supper(4, 1, 0), NONE);
        due("house 2 beside told ones", x.supper(7, 1, 0), NONE);
        due("thick 0", x.supper(3, 0, 0), NONE);
        due("thick 10", x.supper(3, 10, 0), NONE);
        for (int far : FAR) {
            due("set " + far, x.supper(far, 1, 0), NONE);
            due("thick " + far, x.supper(3, far, 0), NONE);
            due("i " + far, x.supper(3, 1, far), NONE);
        }
        due("no candle was told by it", x.about(1), 2);
    }

    private void promise25() {
        edges.sentence("MARRIED: the minutes of the two that have most (candle NONE); the partner of one."
            + " NONE: they are odd many or none, without HOUSES, and for others.");
        CandleEnds none = new CandleEnds();
        due("none told", none.married(NONE), NONE);
        due("none told, of 0", none.married(0), NONE);
        CandleEnds x = busy();
        due("both", x.married(NONE), 100 + 40);
        due("of 0", x.married(0), 1);
        due("of 1", x.married(1), 0);
        due("of 2", x.married(2), NONE);
        for (int far : FAR) {
            due("candle " + far, x.married(far), NONE);
        }
        x.candle(1, 1);
        for (int candle = -1; candle < 4; candle++) {
            due("odd many, " + candle, x.married(candle), NONE);
        }
    }

    private void promise26() {
        edges.sentence("WORTH of a set of HOUSES (bits). NONE for others.");
        CandleEnds none = new CandleEnds();
        due("no houses", none.worth(1), NONE);
        CandleEnds x = busy();
        due("none of them", x.worth(0), 0);
        due("all of them", x.worth(3), 1);
        due("one alone", x.worth(1), 0);
        due("house 2", x.worth(4), NONE);
        due("house 2 beside told ones", x.worth(7), NONE);
        due("-1", x.worth(-1), NONE);
        for (int far : FAR) {
            due("set " + far, x.worth(far), NONE);
        }
    }

    private void promise27() {
        edges.sentence("BEST of k HOUSES (bits). NONE for others.");
        CandleEnds none = new CandleEnds();
        for (int k = -1; k < 3; k++) {
            due("no houses, " + k, none.club(k), NONE);
        }
        CandleEnds x = busy();
        due("0", x.club(0), NONE);
        due("1", x.club(1), 1);
        due("2", x.club(2), 3);
        due("3", x.club(3), NONE);
        for (int far : FAR) {
            due("k " + far, x.club(far), NONE);
        }
    }

    private void promise28() {
        edges.sentence("PRICES: ROUNDS (what 0), the price at which it SETTLES (1). NONE for others; -2: it GOES ROUND.");
        CandleEnds none = new CandleEnds();
        due("none told", none.settles(0, 0, 0), NONE);
        CandleEnds x = Isles.of(20, 0, 0);
        Isles.owned(x, 1, NONE, NONE);
        Isles.owned(x, 1, NONE);
        due("rounds", x.settles(0, 23, 0), 3);
        due("price", x.settles(0, 23, 1), 20);
        due("goes round", x.settles(1, 23, 0), OTHER);
        due("goes round, too", x.settles(1, 23, 1), OTHER);
        int[][] others = {{-1, 0, 0}, {2, 0, 0}, {0, -1, 0}, {0, 100, 0}, {0, 0, -1}, {0, 0, 2}, {1, 23, 2}, {1, 100, 0}};
        for (int[] o : others) {
            due("settles " + o[0] + " " + o[1] + " " + o[2], x.settles(o[0], o[1], o[2]), NONE);
        }
        for (int far : FAR) {
            due("candle " + far, x.settles(far, 0, 0), NONE);
            due("p " + far, x.settles(0, far, 0), NONE);
            due("what " + far, x.settles(0, 0, far), NONE);
        }
    }

    private void promise29() {
        edges.sentence("THE IMAGE is as all is now: how many DRIPS there are.");
        CandleEnds none = new CandleEnds();
        due("no drips", none.image(), 0);
        CandleEnds x = busy();
        due("two drips", x.image(), 2);
        x.undo();
        due("one drip", x.image(), 1);
        x.burn(0);
        due("the later image", x.back(), 1);
        CandleEnds y = Isles.of(999, 0);
        for (int candle = 0; candle < 6; candle++) {
            Isles.owned(y, 1, 0, NONE, NONE, NONE, NONE, NONE, NONE, NONE, NONE, NONE, NONE, NONE);
            y.light(candle);
            Isles.burn(y, candle, 12);
        }
        due("72 drips", y.image(), 72);
        for (int i = 0; i < 30; i++) {
            y.undo();
        }
        due("fewer", y.drip(NONE, 0), 72 - 12 - 12 - 2);
        due("72 again", y.back(), 72);
        due("the last of them", y.drip(71, 1), 11);
        due("where it fell", y.drip(71, 0), 5);
    }

    private void promise30() {
        edges.sentence("All is as at THE IMAGE again (it stays): how many DRIPS there are.");
        CandleEnds none = new CandleEnds();
        due("of a new object", none.back(), 0);
        CandleEnds x = busy();
        x.image();
        for (int round = 0; round < 3; round++) {
            x.burn(0);
            x.buy(0, 0, 3);
            x.light(1);
            x.repay(0, 1);
            x.house(1, 1);
            x.candle(1, 1);
            x.seed(round);
            x.by(NONE);
            due("it stays", x.back(), 2);
            int[] about = {2, 2, 978, 1, 0, 7, 3};
            for (int what = 0; what < about.length; what++) {
                due("about " + what, x.about(what), about[what]);
            }
            int[] candle = {1, 1, 2};
            for (int what = 2; what < 5; what++) {
                due("candle 0, " + what, x.candleOf(0, what), candle[what - 2]);
            }
            due("no owner", x.candleOf(0, 13), NONE);
            due("unlit", x.candleOf(1, 2), 0);
            due("wax", x.houseOf(0, 1), 35);
            due("debt", x.houseOf(0, 2), 5);
        }
    }

    private void promise31() {
        edges.sentence("0 HOUSES, 1 CANDLES, 2 X, 3 TEXTS, 4 THE TEXT (NONE), 5 STEPS that can be taken back, 6 bytes of the"
            + " tape, 10 + state: how many CANDLES have it. -2 for others.");
        CandleEnds x = busy();
        int[] want = {2, 2, 978, 1, 0, 7, 3, OTHER, OTHER, OTHER, 1, 1, 0, 0, OTHER};
        for (int what = 0; what < want.length; what++) {
            due("about " + what, x.about(what), want[what]);
        }
        due("-1", x.about(-1), OTHER);
        for (int far : FAR) {
            due("about " + far, x.about(far), OTHER);
        }
        CandleEnds y = new CandleEnds();
        int[] first = {0, 0, 5, 0, NONE, 0, 0, OTHER, OTHER, OTHER, 0, 0, 0, 0, OTHER};
        for (int what = 0; what < first.length; what++) {
            due("of a new one " + what, y.about(what), first[what]);
        }
    }
}
