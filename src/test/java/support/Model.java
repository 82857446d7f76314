import java.math.BigInteger;
import java.util.ArrayDeque;
import java.util.ArrayList;
import java.util.Arrays;
import java.util.Deque;
import java.util.HashMap;
import java.util.HashSet;
import java.util.List;
import java.util.Map;
import java.util.Set;
import java.util.TreeMap;

/** The document once more, as plainly as can be and by other means than the class: whole copies, trees, all orders. */
final class Model {
    interface Sum {
        long of(Map<String, Integer> names);
    }

    static final class Clause {
        String word;
        Sum sum;
        int[] numbers;
    }

    static final class Fault extends Exception {
        private static final long serialVersionUID = 1L;
        final int why;
        final int place;

        Fault(int why, int place) {
            this.why = why;
            this.place = place;
        }
    }

    static final class House {
        int draught;
        int wax;
        int debt;
        int light;

        House copy() {
            House h = new House();
            h.draught = draught;
            h.wax = wax;
            h.debt = debt;
            h.light = light;
            return h;
        }
    }

    static final class Candle {
        int thick;
        int length;
        int[] owner;
        int state = 0;
        int where = -1;
        int next = 0;

        Candle copy() {
            Candle c = new Candle();
            c.thick = thick;
            c.length = length;
            c.owner = owner.clone();
            c.state = state;
            c.where = where;
            c.next = next;
            return c;
        }
    }

    static final class State {
        List<House> houses = new ArrayList<>();
        List<Candle> candles = new ArrayList<>();
        List<int[]> drips = new ArrayList<>();
        List<List<Clause>> texts = new ArrayList<>();
        Deque<State> steps = new ArrayDeque<>();
        int x = 5;
        int law = -1;

        State copy() {
            State s = new State();
            for (House h : houses) {
                s.houses.add(h.copy());
            }
            for (Candle c : candles) {
                s.candles.add(c.copy());
            }
            s.drips.addAll(drips);
            s.texts.addAll(texts);
            s.x = x;
            s.law = law;
            return s;
        }

        State copyWithSteps() {
            State s = copy();
            for (State step : steps) {
                s.steps.addLast(step.copy());
            }
            return s;
        }
    }

    private State s = new State();
    private State image = new State();
    private final List<Integer> tape = new ArrayList<>();
    private int[] fault = null;

    private boolean isHouse(int h) {
        return 0 <= h && h < s.houses.size();
    }

    private boolean isCandle(int c) {
        return 0 <= c && c < s.candles.size();
    }

    private boolean isInch(int c, int i) {
        return isCandle(c) && 0 <= i && i < s.candles.get(c).length;
    }

    private void step() {
        s.steps.addFirst(s.copy());
        if (s.steps.size() > 30) {
            s.steps.removeLast();
        }
    }

    private int draw(int m) {
        int d = s.x % m;
        s.x = (int) ((s.x * 179L + 83) % 30011);
        return d;
    }

    private int law(String word, int house, int candle, int thick, int length, int inch) {
        House h = s.houses.get(house);
        long value = Map.of("price", thick, "burns", 10 * thick, "tears", 0, "out", h.draught).get(word);
        if (s.law != -1) {
            for (Clause c : s.texts.get(s.law)) {
                if (c.word.equals(word)) {
                    Map<String, Integer> names = new HashMap<>();
                    names.put("house", house);
                    names.put("draught", h.draught);
                    names.put("candle", candle);
                    names.put("thick", thick);
                    names.put("length", length);
                    names.put("inch", inch);
                    names.put("wax", h.wax);
                    names.put("debt", h.debt);
                    value = c.sum.of(names);
                }
            }
        }
        long least = word.equals("burns") ? 1 : 0;
        long most = word.equals("out") ? 10 : 99;
        return (int) Math.min(most, Math.max(least, value));
    }

    private int law(String word, int house, int candle, int inch) {
        Candle c = s.candles.get(candle);
        return law(word, house, candle, c.thick, c.length, inch);
    }

    int house(int draught, int wax) {
        if (draught < 0 || draught > 9 || wax < 0 || wax > 999 || s.houses.size() == 8) {
            return -1;
        }
        House h = new House();
        h.draught = draught;
        h.wax = wax;
        s.houses.add(h);
        return s.houses.size() - 1;
    }

    int candle(int thick, int length) {
        if (thick < 1 || thick > 9 || length < 1 || length > 12 || s.candles.size() == 6) {
            return -1;
        }
        Candle c = new Candle();
        c.thick = thick;
        c.length = length;
        c.owner = new int[length];
        Arrays.fill(c.owner, -1);
        s.candles.add(c);
        return s.candles.size() - 1;
    }

    boolean seed(int seed) {
        if (seed < 0 || seed > 9999) {
            return false;
        }
        s.x = seed * 4 + 5;
        return true;
    }

    int buy(int house, int candle, int inch) {
        if (!isHouse(house) || !isInch(candle, inch)) {
            return -1;
        }
        Candle c = s.candles.get(candle);
        House h = s.houses.get(house);
        int price = law("price", house, candle, inch);
        if (c.owner[inch] != -1 || inch < c.next || h.wax < price) {
            return -1;
        }
        step();
        h.wax -= price;
        c.owner[inch] = house;
        return h.wax;
    }

    int light(int candle) {
        if (!isCandle(candle)) {
            return -1;
        }
        Candle c = s.candles.get(candle);
        if (c.state == 0 && c.owner[0] != -1) {
            step();
            c.where = c.owner[0];
        } else if (c.state == 2 && s.houses.get(c.where).wax > 0) {
            step();
            s.houses.get(c.where).wax--;
        } else {
            return -1;
        }
        c.state = 1;
        return c.where;
    }

    int burn(int candle) {
        if (!isCandle(candle) || s.candles.get(candle).state != 1) {
            return -1;
        }
        step();
        Candle c = s.candles.get(candle);
        House h = s.houses.get(c.where);
        int inch = c.next;
        int minutes = law("burns", c.where, candle, inch);
        int tears = law("tears", c.where, candle, inch);
        int price = law("price", c.where, candle, inch);
        h.light += minutes;
        h.wax = Math.min(999, h.wax + tears);
        if (c.owner[inch] == -1) {
            h.debt = Math.min(999, h.debt + price);
        }
        s.drips.add(new int[] {candle, inch, c.where, minutes, tears});
        c.next++;
        if (c.next == c.length) {
            c.state = 3;
        } else if (c.owner[c.next] != -1 && c.owner[c.next] != c.where) {
            c.where = c.owner[c.next];
            int out = law("out", c.where, candle, c.next);
            if (draw(10) < out) {
                c.state = 2;
            }
        }
        return c.state;
    }

    int repay(int house, int k) {
        if (!isHouse(house) || k < 1) {
            return -1;
        }
        House h = s.houses.get(house);
        if (k > h.debt || k > h.wax) {
            return -1;
        }
        step();
        h.debt -= k;
        h.wax -= k;
        return h.debt;
    }

    int moths(int n) {
        if (n < 1 || n > 30 || s.houses.isEmpty()) {
            return -1;
        }
        step();
        int taken = 0;
        for (int i = 0; i < n; i++) {
            House h = s.houses.get(draw(s.houses.size()));
            if (h.debt > 0 && h.wax > 0) {
                h.debt--;
                h.wax--;
                taken++;
            }
        }
        return taken;
    }

    int feed(int... five) {
        if (tape.size() + 20 > 300) {
            return -1;
        }
        for (int v : five) {
            for (byte b : BigInteger.valueOf((v & 0xffffffffL) | 1L << 32).toByteArray()) {
                tape.add(b & 255);
            }
            tape.remove(tape.size() - 5);
        }
        return tape.size();
    }

    int end(int n) {
        if (n < 0 || n > tape.size()) {
            return -1;
        }
        while (tape.size() > n) {
            tape.remove(tape.size() - 1);
        }
        return n;
    }

    int text() {
        if (s.texts.size() == 4) {
            return -1;
        }
        StringBuilder b = new StringBuilder();
        for (int one : tape) {
            b.append((char) one);
        }
        tape.clear();
        try {
            List<Clause> clauses = new Grammar(b.toString()).text();
            fault = new int[] {0, -1};
            s.texts.add(clauses);
            return s.texts.size() - 1;
        } catch (Fault f) {
            fault = new int[] {f.why, f.place};
            return -1;
        }
    }

    int fault(int what) {
        return fault == null || what < 0 || what > 1 ? -1 : fault[what];
    }

    boolean by(int text) {
        if (text < -1 || text >= s.texts.size()) {
            return false;
        }
        s.law = text;
        return true;
    }

    int played(int text) {
        if (text < 0 || text >= s.texts.size()) {
            return -2;
        }
        List<Clause> clauses = s.texts.get(text);
        for (int i = 0; i < clauses.size(); i++) {
            int[] n = clauses.get(i).numbers;
            String word = clauses.get(i).word;
            int did = word.equals("buy") ? buy(n[2], n[1], n[0]) : word.equals("light") ? light(n[0])
                : word.equals("burn") ? burn(n[0]) : word.equals("moths") ? moths(n[0]) : 0;
            if (did == -1) {
                return i;
            }
        }
        return -1;
    }

    int undo() {
        if (s.steps.isEmpty()) {
            return -1;
        }
        State then = s.steps.removeFirst();
        for (int i = 0; i < then.houses.size(); i++) {
            s.houses.set(i, then.houses.get(i).copy());
        }
        for (int i = 0; i < then.candles.size(); i++) {
            s.candles.set(i, then.candles.get(i).copy());
        }
        s.drips = new ArrayList<>(then.drips);
        s.x = then.x;
        return s.steps.size();
    }

    int houseOf(int house, int what) {
        if (!isHouse(house) || what < 0 || what > 3) {
            return -2;
        }
        House h = s.houses.get(house);
        return new int[] {h.draught, h.wax, h.debt, h.light}[what];
    }

    int candleOf(int candle, int what) {
        if (!isCandle(candle)) {
            return -2;
        }
        Candle c = s.candles.get(candle);
        if (what >= 0 && what <= 4) {
            return new int[] {c.thick, c.length, c.state, c.where, c.next}[what];
        }
        return what >= 10 && what < 10 + c.length ? c.owner[what - 10] : -2;
    }

    int says(int house, int candle, int inch, int what) {
        if (!isHouse(house) || !isInch(candle, inch) || what < 0 || what > 3) {
            return -2;
        }
        return law(new String[] {"price", "burns", "tears", "out"}[what], house, candle, inch);
    }

    int drip(int i, int what) {
        if (i == -1) {
            return s.drips.size();
        }
        return i < 0 || i >= s.drips.size() || what < 0 || what > 4 ? -2 : s.drips.get(i)[what];
    }

    /** For each inch from NEXT on: inch, house, out of ten as it is handed on (-1: it isn't). Null: no way. */
    private List<int[]> way(int candle) {
        if (!isCandle(candle)) {
            return null;
        }
        Candle c = s.candles.get(candle);
        if (c.state == 3 || c.state == 0 && c.owner[0] == -1) {
            return null;
        }
        List<int[]> way = new ArrayList<>();
        int at = c.state == 0 ? c.owner[0] : c.where;
        way.add(new int[] {c.next, at, -1});
        for (int i = c.next + 1; i < c.length; i++) {
            int out = -1;
            if (c.owner[i] != -1 && c.owner[i] != at) {
                at = c.owner[i];
                out = law("out", at, candle, i);
            }
            way.add(new int[] {i, at, out});
        }
        return way;
    }

    int whose(int candle, int t) {
        List<int[]> way = way(candle);
        if (way == null || t < 0 || t > 9999) {
            return -1;
        }
        List<Integer> minutes = new ArrayList<>();
        for (int[] w : way) {
            for (int i = law("burns", w[1], candle, w[0]); i > 0; i--) {
                minutes.add(w[1]);
            }
        }
        return t < minutes.size() ? minutes.get(t) : -1;
    }

    private static long part(BigInteger up, BigInteger low, boolean wantLow) {
        BigInteger g = up.gcd(low);
        return (wantLow ? low : up).divide(g).longValueExact();
    }

    long odds(int candle, int inch, boolean low) {
        List<int[]> way = way(candle);
        if (way == null || inch < way.get(0)[0] || inch > way.get(way.size() - 1)[0]) {
            return -1;
        }
        BigInteger up = BigInteger.ONE;
        BigInteger down = BigInteger.ONE;
        for (int[] w : way) {
            if (w[0] <= inch && w[2] != -1) {
                up = up.multiply(BigInteger.valueOf(10 - w[2]));
                down = down.multiply(BigInteger.TEN);
            }
        }
        return part(up, down, low);
    }

    long blame(int candle, int house, boolean low) {
        List<int[]> way = way(candle);
        if (way == null || !isHouse(house)) {
            return -1;
        }
        // All over ten to the twelfth, which no way of eleven handings outgrows.
        BigInteger lit = BigInteger.TEN.pow(12);
        BigInteger all = BigInteger.ZERO;
        BigInteger his = BigInteger.ZERO;
        for (int[] w : way) {
            if (w[2] != -1) {
                BigInteger tenth = lit.divide(BigInteger.TEN);
                BigInteger gone = tenth.multiply(BigInteger.valueOf(w[2]));
                all = all.add(gone);
                his = w[1] == house ? his.add(gone) : his;
                lit = lit.subtract(gone);
            }
        }
        return all.signum() == 0 ? -1 : part(his, all, low);
    }

    int supper(int set, int thick, int i) {
        if (set < 1 || set >= 1 << s.houses.size() || thick < 1 || thick > 9) {
            return -1;
        }
        List<Integer> guests = new ArrayList<>();
        for (int h = 0; h < 8; h++) {
            if ((set & 1 << h) != 0) {
                guests.add(h);
            }
        }
        if (guests.size() > 6 || i < 0 || i >= guests.size()) {
            return -1;
        }
        List<List<Integer>> orders = new ArrayList<>();
        orders(new ArrayList<>(), guests, orders);
        List<Integer> best = null;
        long bestKept = -1;
        for (List<Integer> order : orders) {
            long kept = 1;
            for (int inch = 1; inch < order.size(); inch++) {
                kept *= 10 - law("out", order.get(inch), s.candles.size(), thick, order.size(), inch);
            }
            if (kept > bestKept) {
                bestKept = kept;
                best = order;
            }
        }
        return best.get(i);
    }

    private static void orders(List<Integer> soFar, List<Integer> guests, List<List<Integer>> into) {
        if (soFar.size() == guests.size()) {
            into.add(new ArrayList<>(soFar));
        }
        for (int g : guests) {
            if (!soFar.contains(g)) {
                soFar.add(g);
                orders(soFar, guests, into);
                soFar.remove(soFar.size() - 1);
            }
        }
    }

    int married(int candle) {
        int n = s.candles.size();
        if (n == 0 || n % 2 == 1 || s.houses.isEmpty() || candle < -1 || candle >= n) {
            return -1;
        }
        // Each matching as its row of partners, read as a number: the lowest row is the one that the document takes.
        TreeMap<Long, int[]> all = new TreeMap<>();
        matchings(new int[] {-1, -1, -1, -1, -1, -1}, n, all);
        int[] best = all.firstEntry().getValue();
        return candle == -1 ? (int) (all.firstKey() / 1000000) : best[candle];
    }

    private void matchings(int[] partner, int n, TreeMap<Long, int[]> all) {
        int free = 0;
        while (free < n && partner[free] != -1) {
            free++;
        }
        if (free == n) {
            long key = 0;
            for (int c = 0; c < n; c++) {
                key = Math.max(key, minutes(c) + minutes(partner[c]));
            }
            for (int c = 0; c < 6; c++) {
                key = key * 10 + (c < n ? partner[c] : 0);
            }
            all.put(key, partner.clone());
            return;
        }
        for (int other = n - 1; other > free; other--) {
            if (partner[other] == -1) {
                int[] more = partner.clone();
                more[free] = other;
                more[other] = free;
                matchings(more, n, all);
            }
        }
    }

    private int minutes(int candle) {
        Candle c = s.candles.get(candle);
        int sum = 0;
        for (int i = c.next; i < c.length; i++) {
            sum += law("burns", 0, candle, i);
        }
        return sum;
    }

    int worth(int set) {
        if (set < 0 || set >= 1 << s.houses.size()) {
            return -1;
        }
        int worth = 0;
        for (Candle c : s.candles) {
            for (int i = 0; i + 1 < c.length; i++) {
                int a = c.owner[i];
                int b = c.owner[i + 1];
                if (a != -1 && b != -1 && (set & 1 << a) != 0 && (set & 1 << b) != 0) {
                    worth++;
                }
            }
        }
        return worth;
    }

    int club(int k) {
        int n = s.houses.size();
        if (k < 1 || k > n) {
            return -1;
        }
        int best = -1;
        for (int set = (1 << n) - 1; set > 0; set--) {
            if (Integer.bitCount(set) == k && (best == -1 || worth(set) >= worth(best))) {
                best = set;
            }
        }
        return best;
    }

    int settles(int candle, int p, int what) {
        if (!isCandle(candle) || p < 0 || p > 99 || what < 0 || what > 1) {
            return -1;
        }
        int free = 0;
        for (int o : s.candles.get(candle).owner) {
            free += o == -1 ? 1 : 0;
        }
        Set<Integer> seen = new HashSet<>();
        int rounds = 0;
        while (seen.add(p)) {
            int rich = 0;
            for (House h : s.houses) {
                rich += h.wax >= p ? 1 : 0;
            }
            int to = rich > free ? Math.min(99, p + 1) : rich < free ? Math.max(0, p - 1) : p;
            if (to == p) {
                return what == 0 ? rounds : p;
            }
            p = to;
            rounds++;
        }
        return -2;
    }

    int image() {
        image = s.copyWithSteps();
        return s.drips.size();
    }

    int back() {
        s = image.copyWithSteps();
        return s.drips.size();
    }

    int about(int what) {
        switch (what) {
            case 0: return s.houses.size();
            case 1: return s.candles.size();
            case 2: return s.x;
            case 3: return s.texts.size();
            case 4: return s.law;
            case 5: return s.steps.size();
            case 6: return tape.size();
            default: break;
        }
        if (what < 10 || what > 13) {
            return -2;
        }
        int many = 0;
        for (Candle c : s.candles) {
            many += c.state == what - 10 ? 1 : 0;
        }
        return many;
    }

    /** The language, over texts of tokens. */
    private static final class Grammar {
        private final List<String> tokens = new ArrayList<>();
        private final List<Integer> places = new ArrayList<>();
        private int at = 0;
        private String clause;

        Grammar(String text) {
            java.util.regex.Matcher m = java.util.regex.Pattern
                .compile("[ \n]|([a-zA-Z]+|[0-9]+|<=|>=|[-<>=#+*/();]|.)", java.util.regex.Pattern.DOTALL).matcher(text);
            while (m.find()) {
                if (m.group(1) != null) {
                    tokens.add(m.group(1));
                    places.add(m.start());
                }
            }
            tokens.add("");
            places.add(text.length());
        }

        private Fault fault(int why) {
            return new Fault(why, places.get(at));
        }

        private String peek() {
            return tokens.get(at);
        }

        private void take(String wanted) throws Fault {
            if (!peek().equals(wanted)) {
                throw fault(1);
            }
            at++;
        }

        List<Clause> text() throws Fault {
            List<Clause> clauses = new ArrayList<>();
            Set<String> laws = new HashSet<>();
            while (!peek().isEmpty()) {
                clause = peek();
                if (!List.of("price", "burns", "tears", "out", "buy", "light", "burn", "moths").contains(clause)) {
                    throw fault(1);
                }
                if (laws.contains(clause)) {
                    throw fault(4);
                }
                if (clauses.size() == 24) {
                    throw fault(6);
                }
                at++;
                Clause c = new Clause();
                c.word = clause;
                if (clause.equals("buy")) {
                    int inch = number(0, 11);
                    take("of");
                    int candle = number(0, 5);
                    take("for");
                    c.numbers = new int[] {inch, candle, number(0, 7)};
                } else if (clause.equals("moths")) {
                    c.numbers = new int[] {number(1, 30)};
                } else if (clause.equals("light") || clause.equals("burn")) {
                    c.numbers = new int[] {number(0, 5)};
                } else {
                    laws.add(clause);
                    c.sum = sum(0);
                }
                take(";");
                clauses.add(c);
            }
            return clauses;
        }

        private int number(int least, int most) throws Fault {
            if (!peek().matches("[0-9]+")) {
                throw fault(1);
            }
            BigInteger n = new BigInteger(peek());
            if (n.compareTo(BigInteger.valueOf(least)) < 0 || n.compareTo(BigInteger.valueOf(most)) > 0) {
                throw fault(2);
            }
            at++;
            return n.intValue();
        }

        private static long held(long v) {
            return Math.max(-1000000, Math.min(1000000, v));
        }

        private Sum sum(int open) throws Fault {
            Sum left = product(open);
            while (peek().equals("+") || peek().equals("-")) {
                int sign = tokens.get(at++).equals("+") ? 1 : -1;
                Sum a = left;
                Sum b = product(open);
                left = n -> held(a.of(n) + sign * b.of(n));
            }
            return left;
        }

        private Sum product(int open) throws Fault {
            Sum left = one(open);
            while (peek().equals("*") || peek().equals("/")) {
                boolean times = tokens.get(at++).equals("*");
                Sum a = left;
                Sum b = one(open);
                left = times ? n -> held(a.of(n) * b.of(n)) : n -> b.of(n) == 0 ? 0 : a.of(n) / b.of(n);
            }
            return left;
        }

        private Sum one(int open) throws Fault {
            String t = peek();
            if (t.matches("[0-9]+")) {
                int v = number(0, 9999);
                return n -> v;
            }
            if (List.of("house", "draught", "candle", "thick", "length", "inch", "wax", "debt").contains(t)) {
                if (List.of("wax", "debt").contains(t) && !clause.equals("price")) {
                    throw fault(5);
                }
                at++;
                return n -> n.get(t);
            }
            if (!t.equals("(") && !t.equals("-")) {
                throw fault(1);
            }
            if (open == 8) {
                throw fault(3);
            }
            at++;
            if (t.equals("-")) {
                Sum a = one(open + 1);
                return n -> -a.of(n);
            }
            Sum a = sum(open + 1);
            take(")");
            return a;
        }
    }
}
