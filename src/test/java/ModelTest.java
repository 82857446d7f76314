import java.util.Random;

/** Random runs of calls, each answered by the class and by the plain model; the seeds are told, so each run is the same. */
public final class ModelTest {
    private static final int RUNS = 3000;
    private static final int CALLS = 512;
    private static final String[] PIECES = {
        "price", "burns", "tears", "out", "buy", "light", "burn", "moths", "of", "for", "house", "draught", "candle",
        "thick", "length", "inch", "wax", "debt", "<=", ">=", "<", ">", "=", "#", "+", "-", "*", "/", "(", ")", ";",
        " ", "\n", "0", "1", "5", "9", "12", "30", "31", "9999", "10000", "007", "Price", "x", "?", "\t", "\u00e9"
    };
    private static final String[] NAMES = {"house", "draught", "candle", "thick", "length", "inch", "wax", "debt"};

    private final Check check = new Check();
    private Random random;
    private CandleEnds x;
    private Model m;
    private String run;

    public static void main(String[] args) {
        ModelTest t = new ModelTest();
        for (int i = 0; i < RUNS && !t.check.failed(); i++) {
            t.oneRun(i);
        }
        t.check.close("ModelTest");
    }

    private void oneRun(int seed) {
        random = new Random(seed);
        x = new CandleEnds();
        m = new Model();
        run = "run " + seed;
        for (int call = 0; call < CALLS && !check.failed(); call++) {
            run = "run " + seed + ", call " + call + ": ";
            if (call < 12 && random.nextInt(10) > 0) {
                tellOne();
            } else {
                oneCall();
            }
        }
    }

    private int r(int bound) {
        return random.nextInt(bound);
    }

    /** Mostly one of 0 .. bound - 1, seldom one outside. */
    private int near(int bound) {
        int[] wild = {-1, -2, bound, bound + 1, Integer.MAX_VALUE, Integer.MIN_VALUE};
        return bound < 1 || r(12) == 0 ? wild[r(wild.length)] : r(bound);
    }

    private void due(String call, long got, long want) {
        check.due(run + call, got, want);
    }

    private void tellOne() {
        if (r(2) == 0) {
            int draught = r(3) == 0 ? 0 : near(10);
            int wax = r(3) == 0 ? r(20) : near(1000);
            due("house " + draught + " " + wax, x.house(draught, wax), m.house(draught, wax));
        } else {
            int thick = near(10);
            int length = r(3) == 0 ? 12 : near(13);
            due("candle " + thick + " " + length, x.candle(thick, length), m.candle(thick, length));
        }
    }

    private void oneCall() {
        int kind = r(100);
        if (kind < 3) {
            tellOne();
        } else if (kind < 18) {
            int h = near(m.about(0));
            int c = near(m.about(1));
            int i = near(12);
            due("buy " + h + " " + c + " " + i, x.buy(h, c, i), m.buy(h, c, i));
        } else if (kind < 24) {
            int c = near(m.about(1));
            due("light " + c, x.light(c), m.light(c));
        } else if (kind < 36) {
            int c = near(m.about(1));
            due("burn " + c, x.burn(c), m.burn(c));
        } else if (kind < 44) {
            text();
        } else if (kind < 54) {
            otherSteps();
        } else if (kind < 58) {
            images();
        } else if (kind < 76) {
            looks();
        } else {
            questions();
        }
    }

    private void otherSteps() {
        int n;
        switch (r(7)) {
            case 0:
                n = near(10000);
                due("seed " + n, x.seed(n) ? 1 : 0, m.seed(n) ? 1 : 0);
                break;
            case 1:
                n = near(31);
                due("moths " + n, x.moths(n), m.moths(n));
                break;
            case 2:
            case 3:
                int h = near(m.about(0));
                n = near(r(2) == 0 ? 5 : Math.max(1, m.houseOf(h, 2) + 2));
                due("repay " + h + " " + n, x.repay(h, n), m.repay(h, n));
                break;
            default:
                due("undo", x.undo(), m.undo());
                break;
        }
    }

    private void images() {
        if (r(2) == 0) {
            due("image", x.image(), m.image());
        } else {
            due("back", x.back(), m.back());
        }
    }

    private String sum(int depth, boolean price) {
        StringBuilder b = new StringBuilder(product(depth, price));
        for (int i = r(3); i > 0; i--) {
            b.append(r(2) == 0 ? "+" : " - ").append(product(depth, price));
        }
        return b.toString();
    }

    private String product(int depth, boolean price) {
        StringBuilder b = new StringBuilder(one(depth, price));
        for (int i = r(5) - 2; i > 0; i--) {
            b.append(r(2) == 0 ? "*" : "/").append(one(depth, price));
        }
        return b.toString();
    }

    private String one(int depth, boolean price) {
        int kind = r(8);
        if (kind < 2 || depth > 9) {
            return r(20) == 0 ? "9999" : String.valueOf(r(30));
        }
        if (kind < 5) {
            return NAMES[r(price || r(60) == 0 ? 8 : 6)];
        }
        return kind == 5 ? "-" + one(depth + 1, price) : kind == 6 ? "(" + sum(depth + 1, price) + ")" : "10";
    }

    private String clause() {
        switch (r(10)) {
            case 0: return "price " + sum(0, true) + ";";
            case 1: return "burns " + sum(0, false) + ";";
            case 2: return "tears\n" + sum(0, false) + ";";
            case 3: return "out " + sum(0, false) + ";";
            case 4: return "light " + r(r(9) == 0 ? 8 : 3) + ";";
            case 5: return "burn " + r(r(9) == 0 ? 8 : 3) + ";";
            case 6: return "moths " + r(r(9) == 0 ? 33 : 10) + ";";
            default: return "buy " + r(r(20) == 0 ? 14 : 6) + "of " + r(r(20) == 0 ? 8 : 3) + " for" + r(r(20) == 0 ? 10 : 3) + " ;";
        }
    }

    private String someText() {
        StringBuilder b = new StringBuilder();
        if (r(8) == 0) {
            for (int i = r(40); i > 0; i--) {
                b.append(PIECES[r(PIECES.length)]);
            }
            return b.toString();
        }
        if (r(12) == 0) {
            for (int i = 20 + r(8); i > 0; i--) {
                b.append(r(12) == 0 ? "out 1;" : "light 0;");
            }
        }
        for (int i = r(6); i > 0; i--) {
            b.append(clause());
        }
        if (r(3) == 0 && b.length() > 0) {
            int at = r(b.length());
            b.replace(at, Math.min(b.length(), at + r(3)), PIECES[r(PIECES.length)]);
        }
        return b.toString();
    }

    private void text() {
        String t = someText();
        String padded = t + " ".repeat((20 - t.length() % 20) % 20);
        for (int from = 0; from < padded.length(); from += 20) {
            int[] five = new int[5];
            for (int i = 0; i < 20; i++) {
                five[i / 4] = five[i / 4] << 8 | padded.charAt(from + i);
            }
            due("feed", x.feed(five[0], five[1], five[2], five[3], five[4]), m.feed(five));
        }
        int n = r(20) == 0 ? near(m.about(6) + 1) : m.about(6) - padded.length() + t.length();
        due("end " + n, x.end(n), m.end(n));
        if (r(15) == 0) {
            return;
        }
        due("text " + t, x.text(), m.text());
        int what = r(20) == 0 ? 2 : r(2);
        due("fault " + what + " of " + t, x.fault(what), m.fault(what));
        int k = near(m.about(3));
        due("by " + k, x.by(k) ? 1 : 0, m.by(k) ? 1 : 0);
        k = near(m.about(3));
        due("played " + k, x.played(k), m.played(k));
    }

    private void looks() {
        int h = near(m.about(0));
        int c = near(m.about(1));
        int what;
        switch (r(5)) {
            case 0:
                what = near(4);
                due("houseOf " + h + " " + what, x.houseOf(h, what), m.houseOf(h, what));
                break;
            case 1:
                what = r(2) == 0 ? near(5) : 10 + near(12);
                due("candleOf " + c + " " + what, x.candleOf(c, what), m.candleOf(c, what));
                break;
            case 2:
                what = near(4);
                int inch = near(12);
                due("says " + h + " " + c + " " + inch + " " + what, x.says(h, c, inch, what), m.says(h, c, inch, what));
                break;
            case 3:
                int i = near(m.drip(-1, 0));
                what = near(5);
                due("drip " + i + " " + what, x.drip(i, what), m.drip(i, what));
                break;
            default:
                what = r(2) == 0 ? near(7) : 10 + near(4);
                due("about " + what, x.about(what), m.about(what));
                break;
        }
    }

    private void questions() {
        int h = near(m.about(0));
        int c = near(m.about(1));
        int sets = 1 << m.about(0);
        boolean low = random.nextBoolean();
        switch (r(8)) {
            case 0:
                int t = r(3) == 0 ? near(10000) : r(500);
                due("whose " + c + " " + t, x.whose(c, t), m.whose(c, t));
                break;
            case 1:
                int inch = near(12);
                due("odds " + c + " " + inch, x.odds(c, inch, low), m.odds(c, inch, low));
                break;
            case 2:
                due("blame " + c + " " + h, x.blame(c, h, low), m.blame(c, h, low));
                break;
            case 3:
                int set = near(sets);
                int thick = near(10);
                int i = near(r(2) == 0 ? 3 : 7);
                due("supper " + set + " " + thick + " " + i, x.supper(set, thick, i), m.supper(set, thick, i));
                break;
            case 4:
                due("married " + c, x.married(c), m.married(c));
                break;
            case 5:
                set = near(sets);
                due("worth " + set, x.worth(set), m.worth(set));
                break;
            case 6:
                int k = 1 + near(m.about(0));
                due("club " + k, x.club(k), m.club(k));
                break;
            default:
                int p = near(100);
                int what = near(2);
                due("settles " + c + " " + p + " " + what, x.settles(c, p, what), m.settles(c, p, what));
                break;
        }
    }
}
