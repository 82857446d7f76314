/** An exchange of candle ends: light that is owned by inches, as ../shared/DOC.md tells it. */
public final class CandleEnds {
    public static final int NONE = -1;

    private static final int OTHER = -2;

    private static final int MOST_HOUSES = 8;
    private static final int MOST_CANDLES = 6;
    private static final int MOST_INCHES = 12;
    private static final int MOST_DRIPS = MOST_CANDLES * MOST_INCHES;
    private static final int MOST_STEPS = 30;
    private static final int MOST_TEXTS = 4;
    private static final int MOST_BYTES = 300;
    private static final int MOST_CLAUSES = 24;
    private static final int MOST_OPEN = 8;
    private static final int MOST_GUESTS = 6;
    private static final int MOST_DRAUGHT = 9;
    private static final int MOST_THICK = 9;
    private static final int MOST_WAX = 999;
    private static final int MOST_DEBT = 999;
    private static final int MOST_MOTHS = 30;
    private static final int MOST_NUMBER = 9999;
    private static final int MOST_PRICE = 99;
    private static final int MOST_SUM = 1000000;

    private static final int FIRST_X = 5;
    private static final int SEED_STEP = 4;
    private static final int DRIP_PARTS = 5;
    private static final int CHANCES = 10;

    private static final int UNLIT = 0;
    private static final int LIT = 1;
    private static final int PUT_OUT = 2;
    private static final int BURNT = 3;

    // The words of the language. Laws stand first, deeds next, so that a range tells the kind of a clause.
    private static final int PRICE = 0;
    private static final int BURNS = 1;
    private static final int TEARS = 2;
    private static final int OUT = 3;
    private static final int BUY = 4;
    private static final int LIGHT = 5;
    private static final int BURN = 6;
    private static final int MOTHS = 7;
    private static final int OF = 8;
    private static final int FOR = 9;
    private static final int FIRST_NAME = 10;
    private static final int LAWS = 4;

    // The names of a sum, counted from FIRST_NAME as words; from NAME_WAX on they stand in price alone.
    private static final int NAME_HOUSE = 0;
    private static final int NAME_DRAUGHT = 1;
    private static final int NAME_CANDLE = 2;
    private static final int NAME_THICK = 3;
    private static final int NAME_LENGTH = 4;
    private static final int NAME_INCH = 5;
    private static final int NAME_WAX = 6;
    private static final int NAME_DEBT = 7;
    private static final int NAMES = 8;

    // A code below FIRST_NAME_CODE is a number itself.
    private static final int FIRST_NAME_CODE = MOST_NUMBER + 1;
    private static final int ADD = FIRST_NAME_CODE + NAMES;
    private static final int SUBTRACT = ADD + 1;
    private static final int MULTIPLY = ADD + 2;
    private static final int DIVIDE = ADD + 3;
    private static final int NEGATE = ADD + 4;

    private static final int FAULT_PLACE = 1;
    private static final int FAULT_NUMBER = 2;
    private static final int FAULT_DEEP = 3;
    private static final int FAULT_TWICE = 4;
    private static final int FAULT_NAME = 5;
    private static final int FAULT_CLAUSES = 6;

    private final Island island = new Island();
    private final Island kept = new Island();
    private final Steps steps = new Steps();
    private final Steps keptSteps = new Steps();
    private final Script[] scripts = new Script[MOST_TEXTS];
    private final Reader reader = new Reader();
    private final Law law = new Law(island, scripts);
    private final Way way = new Way(island, law);
    private final Supper table = new Supper(island, law);
    private final Weddings weddings = new Weddings(island, law);

    public CandleEnds() {
        for (int i = 0; i < scripts.length; i++) {
            scripts[i] = new Script();
        }
    }

    public int house(int draught, int wax) {
        if (draught < 0 || draught > MOST_DRAUGHT || wax < 0 || wax > MOST_WAX) {
            return NONE;
        }
        return island.addHouse(draught, wax);
    }

    public int candle(int thick, int length) {
        if (thick < 1 || thick > MOST_THICK || length < 1 || length > MOST_INCHES) {
            return NONE;
        }
        return island.addCandle(thick, length);
    }

    public boolean seed(int seed) {
        if (seed < 0 || seed > MOST_NUMBER) {
            return false;
        }
        island.x = seed * SEED_STEP + FIRST_X;
        return true;
    }

    public int buy(int house, int candle, int inch) {
        if (!island.isHouse(house) || !island.isInch(candle, inch)) {
            return NONE;
        }
        if (inch < island.next[candle] || island.ownerOf(candle, inch) != NONE) {
            return NONE;
        }
        int price = law.tell(PRICE, house, candle, inch);
        if (island.wax[house] < price) {
            return NONE;
        }
        steps.keep(island, candle, inch);
        island.wax[house] -= price;
        island.setOwner(candle, inch, house);
        return island.wax[house];
    }

    public int light(int candle) {
        if (!island.isCandle(candle)) {
            return NONE;
        }
        if (island.state[candle] == UNLIT) {
            return lightFirst(candle);
        }
        return island.state[candle] == PUT_OUT ? lightAgain(candle) : NONE;
    }

    private int lightFirst(int candle) {
        int owner = island.ownerOf(candle, 0);
        if (owner == NONE) {
            return NONE;
        }
        steps.keep(island, candle, NONE);
        island.state[candle] = LIT;
        island.where[candle] = owner;
        return owner;
    }

    private int lightAgain(int candle) {
        int house = island.where[candle];
        if (!island.isHouse(house) || island.wax[house] < 1) {
            return NONE;
        }
        steps.keep(island, candle, NONE);
        island.wax[house]--;
        island.state[candle] = LIT;
        return house;
    }

    public int burn(int candle) {
        if (!island.isCandle(candle) || island.state[candle] != LIT) {
            return NONE;
        }
        int house = island.where[candle];
        int inch = island.next[candle];
        if (!island.isHouse(house) || !island.isInch(candle, inch)) {
            return NONE;
        }
        steps.keep(island, candle, NONE);
        burnInch(candle, inch, house);
        island.next[candle] = inch + 1;
        passOn(candle, inch + 1, house);
        return island.state[candle];
    }

    private void burnInch(int candle, int inch, int house) {
        // All three are asked ahead of any change, for the price may look at WAX and DEBT.
        int price = law.tell(PRICE, house, candle, inch);
        int minutes = law.tell(BURNS, house, candle, inch);
        int tears = law.tell(TEARS, house, candle, inch);
        island.light[house] += minutes;
        island.wax[house] = Math.min(MOST_WAX, island.wax[house] + tears);
        if (island.ownerOf(candle, inch) == NONE) {
            island.debt[house] = Math.min(MOST_DEBT, island.debt[house] + price);
        }
        island.addDrip(candle, inch, house, minutes, tears);
    }

    private void passOn(int candle, int next, int house) {
        if (next >= island.length[candle]) {
            island.state[candle] = BURNT;
            return;
        }
        int owner = island.ownerOf(candle, next);
        if (owner == NONE || owner == house) {
            return;
        }
        island.where[candle] = owner;
        if (island.draw(CHANCES) < law.tell(OUT, owner, candle, next)) {
            island.state[candle] = PUT_OUT;
        }
    }

    public int repay(int house, int k) {
        if (!island.isHouse(house) || k < 1 || k > island.debt[house] || k > island.wax[house]) {
            return NONE;
        }
        steps.keep(island, NONE, NONE);
        island.debt[house] -= k;
        island.wax[house] -= k;
        return island.debt[house];
    }

    public int moths(int n) {
        if (n < 1 || n > MOST_MOTHS || island.houses < 1) {
            return NONE;
        }
        steps.keep(island, NONE, NONE);
        int taken = 0;
        for (int i = 0; i < n; i++) {
            int house = island.draw(island.houses);
            if (island.isHouse(house) && island.debt[house] > 0 && island.wax[house] > 0) {
                island.debt[house]--;
                island.wax[house]--;
                taken++;
            }
        }
        return taken;
    }

    public int feed(int a, int b, int c, int d, int e) {
        if (!reader.hasRoom()) {
            return NONE;
        }
        reader.addFour(a);
        reader.addFour(b);
        reader.addFour(c);
        reader.addFour(d);
        reader.addFour(e);
        return reader.length;
    }

    public int end(int n) {
        if (n < 0 || n > reader.length) {
            return NONE;
        }
        reader.length = n;
        return n;
    }

    public int text() {
        int number = island.texts;
        if (number < 0 || number >= scripts.length) {
            return NONE;
        }
        Script script = scripts[number];
        if (script == null || !reader.read(script)) {
            return NONE;
        }
        island.texts = number + 1;
        return number;
    }

    public int fault(int what) {
        if (!reader.hasRead) {
            return NONE;
        }
        if (what == 0) {
            return reader.fault;
        }
        return what == 1 ? reader.place : NONE;
    }

    public boolean by(int text) {
        if (text != NONE && !island.isText(text)) {
            return false;
        }
        island.theText = text;
        return true;
    }

    public int played(int text) {
        if (!island.isText(text) || text >= scripts.length) {
            return OTHER;
        }
        Script script = scripts[text];
        if (script == null) {
            return OTHER;
        }
        for (int i = 0; i < script.clauses; i++) {
            int first = script.number(i, 0);
            boolean isDone = true;
            switch (script.kindOf(i)) {
                case BUY:
                    isDone = buy(script.number(i, 2), script.number(i, 1), first) != NONE;
                    break;
                case LIGHT:
                    isDone = light(first) != NONE;
                    break;
                case BURN:
                    isDone = burn(first) != NONE;
                    break;
                case MOTHS:
                    isDone = moths(first) != NONE;
                    break;
                default:
                    break;
            }
            if (!isDone) {
                return i;
            }
        }
        return NONE;
    }

    public int undo() {
        return steps.takeBack(island) ? steps.count : NONE;
    }

    public int houseOf(int house, int what) {
        if (!island.isHouse(house)) {
            return OTHER;
        }
        switch (what) {
            case 0:
                return island.draught[house];
            case 1:
                return island.wax[house];
            case 2:
                return island.debt[house];
            case 3:
                return island.light[house];
            default:
                return OTHER;
        }
    }

    public int candleOf(int candle, int what) {
        if (!island.isCandle(candle)) {
            return OTHER;
        }
        switch (what) {
            case 0:
                return island.thick[candle];
            case 1:
                return island.length[candle];
            case 2:
                return island.state[candle];
            case 3:
                return island.where[candle];
            case 4:
                return island.next[candle];
            default:
                return what >= 10 && island.isInch(candle, what - 10) ? island.ownerOf(candle, what - 10) : OTHER;
        }
    }

    public int says(int house, int candle, int inch, int what) {
        if (!island.isHouse(house) || !island.isInch(candle, inch) || what < 0 || what >= LAWS) {
            return OTHER;
        }
        return law.tell(what, house, candle, inch);
    }

    public int drip(int i, int what) {
        if (i == NONE) {
            return island.drips;
        }
        if (i < 0 || i >= island.drips || what < 0 || what >= DRIP_PARTS) {
            return OTHER;
        }
        return island.dripPart(i, what);
    }

    public int whose(int candle, int t) {
        if (t < 0 || t > MOST_NUMBER || !way.plan(candle)) {
            return NONE;
        }
        return way.houseAt(t);
    }

    public long odds(int candle, int inch, boolean low) {
        if (!way.plan(candle) || inch < way.from || inch >= way.to) {
            return NONE;
        }
        way.reckonOdds(inch);
        return low ? way.lower : way.upper;
    }

    public long blame(int candle, int house, boolean low) {
        if (!island.isHouse(house) || !way.plan(candle) || !way.reckonBlame(house)) {
            return NONE;
        }
        return low ? way.lower : way.upper;
    }

    public int supper(int set, int thick, int i) {
        int guests = island.isSet(set) ? Integer.bitCount(set) : 0;
        if (guests < 1 || guests > MOST_GUESTS || thick < 1 || thick > MOST_THICK || i < 0 || i >= guests) {
            return NONE;
        }
        table.seat(set, thick);
        return table.guestAt(i);
    }

    public int married(int candle) {
        if (candle != NONE && !island.isCandle(candle) || !weddings.arrange()) {
            return NONE;
        }
        return candle == NONE ? weddings.bestMost : weddings.partnerOf(candle);
    }

    public int worth(int set) {
        return island.isSet(set) ? island.worthOf(set) : NONE;
    }

    public int club(int k) {
        if (k < 1 || k > island.houses) {
            return NONE;
        }
        int best = NONE;
        int bestWorth = NONE;
        for (int set = 1; set < 1 << MOST_HOUSES && island.isSet(set); set++) {
            int setWorth = Integer.bitCount(set) == k ? island.worthOf(set) : NONE;
            if (setWorth > bestWorth) {
                best = set;
                bestWorth = setWorth;
            }
        }
        return best;
    }

    public int settles(int candle, int p, int what) {
        if (!island.isCandle(candle) || p < 0 || p > MOST_PRICE || what < 0 || what > 1) {
            return NONE;
        }
        int free = island.freeInches(candle);
        int price = p;
        int lastTurn = 0;
        for (int rounds = 0; rounds <= MOST_PRICE; rounds++) {
            int turn = turnOf(price, free);
            if (turn == 0) {
                return what == 0 ? rounds : price;
            }
            // Only a turn about can bring a price again, for each round goes by one.
            if (lastTurn != 0 && turn != lastTurn) {
                return OTHER;
            }
            price += turn;
            lastTurn = turn;
        }
        return OTHER;
    }

    private int turnOf(int price, int free) {
        int buyers = island.housesWith(price);
        if (buyers > free) {
            return price < MOST_PRICE ? 1 : 0;
        }
        return buyers < free && price > 0 ? -1 : 0;
    }

    public int image() {
        kept.copyFrom(island);
        keptSteps.copyFrom(steps);
        return island.drips;
    }

    public int back() {
        island.copyFrom(kept);
        steps.copyFrom(keptSteps);
        return island.drips;
    }

    public int about(int what) {
        switch (what) {
            case 0:
                return island.houses;
            case 1:
                return island.candles;
            case 2:
                return island.x;
            case 3:
                return island.texts;
            case 4:
                return island.theText;
            case 5:
                return steps.count;
            case 6:
                return reader.length;
            default:
                return what >= 10 + UNLIT && what <= 10 + BURNT ? island.candlesIn(what - 10) : OTHER;
        }
    }

    /** All that an image keeps beside the steps. */
    private static final class Island {
        private int houses = 0;
        private final int[] draught = new int[MOST_HOUSES];
        private final int[] wax = new int[MOST_HOUSES];
        private final int[] debt = new int[MOST_HOUSES];
        private final int[] light = new int[MOST_HOUSES];
        private int candles = 0;
        private final int[] thick = new int[MOST_CANDLES];
        private final int[] length = new int[MOST_CANDLES];
        private final int[] state = new int[MOST_CANDLES];
        private final int[] where = new int[MOST_CANDLES];
        private final int[] next = new int[MOST_CANDLES];
        private final int[] owner = new int[MOST_CANDLES * MOST_INCHES];
        private int x = FIRST_X;
        private int drips = 0;
        private final int[] dripParts = new int[MOST_DRIPS * DRIP_PARTS];
        private int texts = 0;
        private int theText = NONE;

        boolean isHouse(int house) {
            return house >= 0 && house < houses;
        }

        boolean isCandle(int candle) {
            return candle >= 0 && candle < candles;
        }

        boolean isInch(int candle, int inch) {
            return isCandle(candle) && inch >= 0 && inch < length[candle];
        }

        boolean isText(int text) {
            return text >= 0 && text < texts;
        }

        boolean isSet(int set) {
            return set >= 0 && set < 1 << houses;
        }

        int addHouse(int itsDraught, int itsWax) {
            if (houses >= MOST_HOUSES) {
                return NONE;
            }
            draught[houses] = itsDraught;
            wax[houses] = itsWax;
            debt[houses] = 0;
            light[houses] = 0;
            houses++;
            return houses - 1;
        }

        int addCandle(int itsThick, int itsLength) {
            if (candles >= MOST_CANDLES) {
                return NONE;
            }
            thick[candles] = itsThick;
            length[candles] = itsLength;
            state[candles] = UNLIT;
            where[candles] = NONE;
            next[candles] = 0;
            for (int inch = 0; inch < MOST_INCHES; inch++) {
                owner[candles * MOST_INCHES + inch] = NONE;
            }
            candles++;
            return candles - 1;
        }

        int ownerOf(int candle, int inch) {
            return isInch(candle, inch) ? owner[candle * MOST_INCHES + inch] : NONE;
        }

        void setOwner(int candle, int inch, int house) {
            if (isInch(candle, inch)) {
                owner[candle * MOST_INCHES + inch] = house;
            }
        }

        void addDrip(int candle, int inch, int house, int minutes, int tears) {
            if (drips >= MOST_DRIPS) {
                return;
            }
            int at = drips * DRIP_PARTS;
            dripParts[at] = candle;
            dripParts[at + 1] = inch;
            dripParts[at + 2] = house;
            dripParts[at + 3] = minutes;
            dripParts[at + 4] = tears;
            drips++;
        }

        int dripPart(int i, int what) {
            int at = i * DRIP_PARTS + what;
            return at >= 0 && at < dripParts.length ? dripParts[at] : OTHER;
        }

        int draw(int m) {
            int drawn = m > 0 ? x % m : 0;
            x = (x * 179 + 83) % 30011;
            return drawn;
        }

        boolean isOwnedIn(int set, int candle, int inch) {
            int house = ownerOf(candle, inch);
            return house != NONE && (set >> house & 1) == 1;
        }

        int worthOf(int set) {
            int worth = 0;
            for (int candle = 0; candle < candles; candle++) {
                for (int inch = 1; inch < length[candle]; inch++) {
                    if (isOwnedIn(set, candle, inch - 1) && isOwnedIn(set, candle, inch)) {
                        worth++;
                    }
                }
            }
            return worth;
        }

        int freeInches(int candle) {
            int free = 0;
            for (int inch = 0; inch < MOST_INCHES; inch++) {
                if (isInch(candle, inch) && ownerOf(candle, inch) == NONE) {
                    free++;
                }
            }
            return free;
        }

        int housesWith(int price) {
            int many = 0;
            for (int house = 0; house < houses; house++) {
                if (wax[house] >= price) {
                    many++;
                }
            }
            return many;
        }

        int candlesIn(int itsState) {
            int many = 0;
            for (int candle = 0; candle < candles; candle++) {
                if (state[candle] == itsState) {
                    many++;
                }
            }
            return many;
        }

        void copyFrom(Island other) {
            if (other == null) {
                return;
            }
            houses = other.houses;
            candles = other.candles;
            x = other.x;
            drips = other.drips;
            texts = other.texts;
            theText = other.theText;
            copyRow(other.draught, draught);
            copyRow(other.wax, wax);
            copyRow(other.debt, debt);
            copyRow(other.light, light);
            copyRow(other.thick, thick);
            copyRow(other.length, length);
            copyRow(other.state, state);
            copyRow(other.where, where);
            copyRow(other.next, next);
            copyRow(other.owner, owner);
            copyRow(other.dripParts, dripParts);
        }

        private static void copyRow(int[] from, int[] to) {
            for (int i = 0; i < from.length && i < to.length; i++) {
                to[i] = from[i];
            }
        }
    }

    /** The latest steps, each as what it is about to change: the houses, one candle at most, and one owner. */
    private static final class Steps {
        private static final int X = 0;
        private static final int DRIPS = 1;
        private static final int CANDLE = 2;
        private static final int STATE = 3;
        private static final int WHERE = 4;
        private static final int NEXT = 5;
        private static final int BOUGHT = 6;
        private static final int HOUSES = 7;
        private static final int FIRST_HOUSE = 8;
        private static final int PER_HOUSE = 3;
        private static final int WIDTH = FIRST_HOUSE + MOST_HOUSES * PER_HOUSE;

        private final int[][] rows = new int[MOST_STEPS][WIDTH];
        private int count = 0;
        private int latest = MOST_STEPS - 1;

        /** Candle NONE: the step touches none; inch NONE: it buys none. */
        void keep(Island island, int candle, int inch) {
            if (island == null) {
                return;
            }
            latest = (latest + 1) % MOST_STEPS;
            count = Math.min(MOST_STEPS, count + 1);
            int[] row = rows[latest];
            row[X] = island.x;
            row[DRIPS] = island.drips;
            row[CANDLE] = candle;
            row[BOUGHT] = inch;
            if (island.isCandle(candle)) {
                row[STATE] = island.state[candle];
                row[WHERE] = island.where[candle];
                row[NEXT] = island.next[candle];
            }
            row[HOUSES] = island.houses;
            for (int house = 0; house < island.houses; house++) {
                int at = FIRST_HOUSE + house * PER_HOUSE;
                row[at] = island.wax[house];
                row[at + 1] = island.debt[house];
                row[at + 2] = island.light[house];
            }
        }

        boolean takeBack(Island island) {
            if (island == null || count < 1 || latest < 0 || latest >= MOST_STEPS) {
                return false;
            }
            int[] row = rows[latest];
            latest = (latest + MOST_STEPS - 1) % MOST_STEPS;
            count--;
            island.x = row[X];
            island.drips = row[DRIPS];
            int candle = row[CANDLE];
            if (island.isCandle(candle)) {
                island.state[candle] = row[STATE];
                island.where[candle] = row[WHERE];
                island.next[candle] = row[NEXT];
                island.setOwner(candle, row[BOUGHT], NONE);
            }
            // Houses told since the step aren't in its row: they stay as told.
            for (int house = 0; house < row[HOUSES] && island.isHouse(house); house++) {
                int at = FIRST_HOUSE + house * PER_HOUSE;
                island.wax[house] = row[at];
                island.debt[house] = row[at + 1];
                island.light[house] = row[at + 2];
            }
            return true;
        }

        void copyFrom(Steps other) {
            if (other == null) {
                return;
            }
            count = other.count;
            latest = other.latest;
            for (int i = 0; i < MOST_STEPS; i++) {
                for (int j = 0; j < WIDTH; j++) {
                    rows[i][j] = other.rows[i][j];
                }
            }
        }
    }

    /** A text as it was read: its sums as codes with the operator behind its operands, and its clauses. */
    private static final class Script {
        private static final int NUMBERS = 3;

        private final int[] codes = new int[MOST_BYTES];
        private int size = 0;
        private final int[] from = new int[LAWS];
        private final int[] to = new int[LAWS];
        private final int[] kinds = new int[MOST_CLAUSES];
        private final int[] numbers = new int[MOST_CLAUSES * NUMBERS];
        private int clauses = 0;

        void clear() {
            size = 0;
            clauses = 0;
            for (int i = 0; i < LAWS; i++) {
                from[i] = 0;
                to[i] = 0;
            }
        }

        void addCode(int code) {
            if (size < codes.length) {
                codes[size] = code;
                size++;
            }
        }

        /** A law's sum is what was coded since its first code. */
        void addClause(int kind, int firstCode) {
            if (kind >= 0 && kind < LAWS) {
                from[kind] = firstCode;
                to[kind] = size;
            }
            if (clauses < MOST_CLAUSES) {
                kinds[clauses] = kind;
                clauses++;
            }
        }

        /** Of the clause that is being read, which isn't added yet. */
        void setNumber(int which, int value) {
            int at = clauses * NUMBERS + which;
            if (at >= 0 && at < numbers.length) {
                numbers[at] = value;
            }
        }

        // A sum has one code at least, so a law that was told ends behind 0.
        boolean has(int which) {
            return which >= 0 && which < LAWS && to[which] > 0;
        }

        int kindOf(int clause) {
            return clause >= 0 && clause < clauses ? kinds[clause] : NONE;
        }

        int number(int clause, int which) {
            int at = clause * NUMBERS + which;
            return at >= 0 && at < numbers.length ? numbers[at] : NONE;
        }
    }

    /** The tape and its reading: first all tokens, then a method for each rule of the language. */
    private static final class Reader {
        private static final int FED = 20;

        // Kinds of tokens; a sign is its own byte, which is above these.
        private static final int END = 0;
        private static final int NUMBER = 1;
        private static final int WORD = 2;
        private static final int STRAY = 3;

        private final int[] bytes = new int[MOST_BYTES];
        private int length = 0;
        private final int[] kinds = new int[MOST_BYTES + 1];
        private final int[] places = new int[MOST_BYTES + 1];
        private final int[] values = new int[MOST_BYTES + 1];
        private int tokens = 0;
        private int token = 0;
        private int kind = END;
        private int value = 0;
        private int law = NONE;
        private boolean hasRead = false;
        private int fault = 0;
        private int place = NONE;

        boolean hasRoom() {
            return length + FED <= MOST_BYTES;
        }

        void addFour(int four) {
            for (int shift = 24; shift >= 0; shift -= 8) {
                if (length >= 0 && length < bytes.length) {
                    bytes[length] = four >>> shift & 255;
                    length++;
                }
            }
        }

        /** Whether the tape is a text without fault, which then stands in the script; the tape is empty behind it. */
        boolean read(Script script) {
            if (script == null) {
                return false;
            }
            script.clear();
            hasRead = true;
            fault = 0;
            place = NONE;
            takeTokens();
            token = NONE;
            advance();
            boolean isSound = true;
            for (int i = 0; isSound && kind != END && i <= MOST_BYTES; i++) {
                isSound = readClause(script);
            }
            length = 0;
            return isSound;
        }

        private void takeTokens() {
            tokens = 0;
            int at = 0;
            for (int i = 0; i < MOST_BYTES && at < length; i++) {
                int one = byteAt(at);
                if (isDigit(one)) {
                    at = takeNumber(at);
                } else if (isLetter(one)) {
                    at = takeWord(at);
                } else {
                    if (one != ' ' && one != 10) {
                        addToken(isSign(one) ? one : STRAY, at, 0);
                    }
                    at++;
                }
            }
            addToken(END, length, 0);
        }

        private int takeNumber(int from) {
            int number = 0;
            int at = from;
            while (at < length && isDigit(byteAt(at))) {
                // Held at the first number that is too great, so that no row of digits can wrap it round.
                number = Math.min(MOST_NUMBER + 1, number * 10 + byteAt(at) - '0');
                at++;
            }
            addToken(NUMBER, from, number);
            return at;
        }

        private int takeWord(int from) {
            int at = from;
            while (at < length && isLetter(byteAt(at))) {
                at++;
            }
            int word = clauseWord(from, at);
            addToken(WORD, from, word == NONE ? nameWord(from, at) : word);
            return at;
        }

        private void addToken(int itsKind, int itsPlace, int itsValue) {
            if (tokens >= 0 && tokens < kinds.length) {
                kinds[tokens] = itsKind;
                places[tokens] = itsPlace;
                values[tokens] = itsValue;
                tokens++;
            }
        }

        private int clauseWord(int from, int to) {
            if (isWord("price", from, to)) {
                return PRICE;
            }
            if (isWord("burns", from, to)) {
                return BURNS;
            }
            if (isWord("tears", from, to)) {
                return TEARS;
            }
            if (isWord("out", from, to)) {
                return OUT;
            }
            if (isWord("buy", from, to)) {
                return BUY;
            }
            if (isWord("light", from, to)) {
                return LIGHT;
            }
            if (isWord("burn", from, to)) {
                return BURN;
            }
            if (isWord("moths", from, to)) {
                return MOTHS;
            }
            if (isWord("of", from, to)) {
                return OF;
            }
            return isWord("for", from, to) ? FOR : NONE;
        }

        private int nameWord(int from, int to) {
            if (isWord("house", from, to)) {
                return FIRST_NAME + NAME_HOUSE;
            }
            if (isWord("draught", from, to)) {
                return FIRST_NAME + NAME_DRAUGHT;
            }
            if (isWord("candle", from, to)) {
                return FIRST_NAME + NAME_CANDLE;
            }
            if (isWord("thick", from, to)) {
                return FIRST_NAME + NAME_THICK;
            }
            if (isWord("length", from, to)) {
                return FIRST_NAME + NAME_LENGTH;
            }
            if (isWord("inch", from, to)) {
                return FIRST_NAME + NAME_INCH;
            }
            if (isWord("wax", from, to)) {
                return FIRST_NAME + NAME_WAX;
            }
            return isWord("debt", from, to) ? FIRST_NAME + NAME_DEBT : NONE;
        }

        private boolean isWord(String wanted, int from, int to) {
            if (wanted == null || wanted.length() != to - from) {
                return false;
            }
            for (int i = 0; i < wanted.length(); i++) {
                if (byteAt(from + i) != wanted.charAt(i)) {
                    return false;
                }
            }
            return true;
        }

        private int byteAt(int i) {
            return i >= 0 && i < length && i < bytes.length ? bytes[i] : NONE;
        }

        private static boolean isDigit(int one) {
            return one >= '0' && one <= '9';
        }

        private static boolean isLetter(int one) {
            return one >= 'a' && one <= 'z' || one >= 'A' && one <= 'Z';
        }

        // The comparisons, = and # are tokens too, but no rule takes one, so they stray like a byte that is none.
        private static boolean isSign(int one) {
            return one == '+' || one == '-' || one == '*' || one == '/' || one == '(' || one == ')' || one == ';';
        }

        private void advance() {
            token++;
            boolean isThere = token >= 0 && token < tokens && token < kinds.length;
            kind = isThere ? kinds[token] : END;
            value = isThere ? values[token] : 0;
        }

        private boolean refuse(int why) {
            fault = why;
            place = token >= 0 && token < places.length ? places[token] : length;
            return false;
        }

        private boolean readClause(Script script) {
            if (kind != WORD || value < PRICE || value > MOTHS) {
                return refuse(FAULT_PLACE);
            }
            if (script.has(value)) {
                return refuse(FAULT_TWICE);
            }
            if (script.clauses >= MOST_CLAUSES) {
                return refuse(FAULT_CLAUSES);
            }
            int clause = value;
            int firstCode = script.size;
            advance();
            law = clause;
            boolean isSound = clause < LAWS ? readSum(script, 0) : readDeed(script, clause);
            if (!isSound || !readSign(';')) {
                return false;
            }
            script.addClause(clause, firstCode);
            return true;
        }

        private boolean readDeed(Script script, int deed) {
            if (deed == BUY) {
                return readNumber(script, 0, 0, MOST_INCHES - 1) && readWord(OF)
                    && readNumber(script, 1, 0, MOST_CANDLES - 1) && readWord(FOR)
                    && readNumber(script, 2, 0, MOST_HOUSES - 1);
            }
            if (deed == MOTHS) {
                return readNumber(script, 0, 1, MOST_MOTHS);
            }
            return readNumber(script, 0, 0, MOST_CANDLES - 1);
        }

        private boolean readNumber(Script script, int which, int least, int most) {
            if (kind != NUMBER) {
                return refuse(FAULT_PLACE);
            }
            if (value < least || value > most) {
                return refuse(FAULT_NUMBER);
            }
            script.setNumber(which, value);
            advance();
            return true;
        }

        private boolean readWord(int wanted) {
            if (kind != WORD || value != wanted) {
                return refuse(FAULT_PLACE);
            }
            advance();
            return true;
        }

        private boolean readSign(int wanted) {
            if (kind != wanted) {
                return refuse(FAULT_PLACE);
            }
            advance();
            return true;
        }

        /** Open: how many of ( and - of one ONE stand open around it. */
        private boolean readSum(Script script, int open) {
            if (!readProduct(script, open)) {
                return false;
            }
            for (int i = 0; i < MOST_BYTES && (kind == '+' || kind == '-'); i++) {
                int code = kind == '+' ? ADD : SUBTRACT;
                advance();
                if (!readProduct(script, open)) {
                    return false;
                }
                script.addCode(code);
            }
            return true;
        }

        private boolean readProduct(Script script, int open) {
            if (!readOne(script, open)) {
                return false;
            }
            for (int i = 0; i < MOST_BYTES && (kind == '*' || kind == '/'); i++) {
                int code = kind == '*' ? MULTIPLY : DIVIDE;
                advance();
                if (!readOne(script, open)) {
                    return false;
                }
                script.addCode(code);
            }
            return true;
        }

        private boolean readOne(Script script, int open) {
            if (kind == NUMBER || kind == WORD) {
                return readLeaf(script);
            }
            if (kind != '(' && kind != '-') {
                return refuse(FAULT_PLACE);
            }
            if (open >= MOST_OPEN) {
                return refuse(FAULT_DEEP);
            }
            boolean isNegative = kind == '-';
            advance();
            if (!isNegative) {
                return readSum(script, open + 1) && readSign(')');
            }
            if (!readOne(script, open + 1)) {
                return false;
            }
            script.addCode(NEGATE);
            return true;
        }

        private boolean readLeaf(Script script) {
            boolean isName = kind == WORD;
            int name = value - FIRST_NAME;
            if (isName && (name < 0 || name >= NAMES)) {
                return refuse(FAULT_PLACE);
            }
            if (!isName && value > MOST_NUMBER) {
                return refuse(FAULT_NUMBER);
            }
            if (isName && name >= NAME_WAX && law != PRICE) {
                return refuse(FAULT_NAME);
            }
            script.addCode(isName ? FIRST_NAME_CODE + name : value);
            advance();
            return true;
        }
    }

    /** What the law says: the sums of THE TEXT over the names, or what holds without them. */
    private static final class Law {
        // Each open ( may leave a sum and a product waiting, and so may the sum around all of them.
        private static final int DEPTH = 2 * (MOST_OPEN + 1) + 2;

        private final Island island;
        private final Script[] scripts;
        private final int[] names = new int[NAMES];
        private final int[] stack = new int[DEPTH];

        Law(Island island, Script[] scripts) {
            this.island = island;
            this.scripts = scripts;
        }

        int tell(int which, int house, int candle, int inch) {
            if (!island.isHouse(house) || !island.isInch(candle, inch)) {
                return 0;
            }
            nameInch(candle, island.thick[candle], island.length[candle], inch);
            nameHouse(house);
            return answer(which);
        }

        /** Of a candle that isn't told yet, numbered as the next one would be. */
        int tellNew(int which, int house, int thick, int length, int inch) {
            if (!island.isHouse(house)) {
                return 0;
            }
            nameInch(island.candles, thick, length, inch);
            nameHouse(house);
            return answer(which);
        }

        private void nameInch(int candle, int thick, int length, int inch) {
            names[NAME_CANDLE] = candle;
            names[NAME_THICK] = thick;
            names[NAME_LENGTH] = length;
            names[NAME_INCH] = inch;
        }

        private void nameHouse(int house) {
            names[NAME_HOUSE] = house;
            names[NAME_DRAUGHT] = island.draught[house];
            names[NAME_WAX] = island.wax[house];
            names[NAME_DEBT] = island.debt[house];
        }

        private int answer(int which) {
            Script script = island.isText(island.theText) && island.theText < scripts.length
                ? scripts[island.theText] : null;
            boolean isTold = script != null && script.has(which);
            int value = isTold ? reckon(script, script.from[which], script.to[which]) : untold(which);
            int least = which == BURNS ? 1 : 0;
            int most = which == OUT ? CHANCES : MOST_PRICE;
            return Math.max(least, Math.min(most, value));
        }

        private int untold(int which) {
            switch (which) {
                case PRICE:
                    return names[NAME_THICK];
                case BURNS:
                    return 10 * names[NAME_THICK];
                case OUT:
                    return names[NAME_DRAUGHT];
                default:
                    return 0;
            }
        }

        private int reckon(Script script, int from, int to) {
            int height = 0;
            for (int i = from; i >= 0 && i < to && i < script.codes.length; i++) {
                int code = script.codes[i];
                if (code < ADD && height < stack.length) {
                    stack[height] = code < FIRST_NAME_CODE ? code : names[code - FIRST_NAME_CODE];
                    height++;
                } else if (code == NEGATE && height > 0) {
                    stack[height - 1] = -stack[height - 1];
                } else if (height > 1) {
                    height--;
                    stack[height - 1] = combine(code, stack[height - 1], stack[height]);
                }
            }
            return stack[0];
        }

        private static int combine(int code, int left, int right) {
            long value;
            switch (code) {
                case ADD:
                    value = left + right;
                    break;
                case SUBTRACT:
                    value = left - right;
                    break;
                case MULTIPLY:
                    value = (long) left * right;
                    break;
                default:
                    value = right == 0 ? 0 : left / right;
                    break;
            }
            return (int) Math.max(-MOST_SUM, Math.min(MOST_SUM, value));
        }
    }

    /** The way of a candle: in which house each inch burns, and how likely it goes out as it is handed there. */
    private static final class Way {
        private final Island island;
        private final Law law;
        private final int[] houses = new int[MOST_INCHES];
        private final int[] outs = new int[MOST_INCHES];
        private int candle = NONE;
        private int from = 0;
        private int to = 0;
        private long upper = 0;
        private long lower = 1;

        Way(Island island, Law law) {
            this.island = island;
            this.law = law;
        }

        /** False: the candle has no way. */
        boolean plan(int itsCandle) {
            from = 0;
            to = 0;
            if (!island.isCandle(itsCandle) || island.state[itsCandle] == BURNT) {
                return false;
            }
            candle = itsCandle;
            int house = island.state[candle] == UNLIT ? island.ownerOf(candle, 0) : island.where[candle];
            if (!island.isHouse(house)) {
                return false;
            }
            from = island.next[candle];
            to = island.length[candle];
            for (int inch = from; inch >= 0 && inch < to && inch < MOST_INCHES; inch++) {
                int owner = inch == from ? NONE : island.ownerOf(candle, inch);
                boolean isHanded = owner != NONE && owner != house;
                house = isHanded ? owner : house;
                houses[inch] = house;
                outs[inch] = isHanded ? law.tell(OUT, house, candle, inch) : NONE;
            }
            return true;
        }

        int houseAt(int minute) {
            int left = minute;
            for (int inch = from; inch >= 0 && inch < to && inch < MOST_INCHES; inch++) {
                left -= law.tell(BURNS, houses[inch], candle, inch);
                if (left < 0) {
                    return houses[inch];
                }
            }
            return NONE;
        }

        void reckonOdds(int last) {
            upper = 1;
            lower = 1;
            for (int inch = from; inch >= 0 && inch <= last && inch < MOST_INCHES; inch++) {
                if (outs[inch] != NONE) {
                    upper *= CHANCES - outs[inch];
                    lower *= CHANCES;
                }
            }
            shorten();
        }

        /** False: it can't be put out. All three numbers are over one power of ten, which falls out in the end. */
        boolean reckonBlame(int house) {
            long stillLit = 1;
            upper = 0;
            lower = 0;
            for (int inch = from; inch >= 0 && inch < to && inch < MOST_INCHES; inch++) {
                if (outs[inch] != NONE) {
                    long putOut = stillLit * outs[inch];
                    upper = upper * CHANCES + (houses[inch] == house ? putOut : 0);
                    lower = lower * CHANCES + putOut;
                    stillLit *= CHANCES - outs[inch];
                }
            }
            if (lower == 0) {
                return false;
            }
            shorten();
            return true;
        }

        private void shorten() {
            long common = commonDivisor(upper, lower);
            if (common > 1) {
                upper /= common;
                lower /= common;
            }
        }

        private static long commonDivisor(long a, long b) {
            long high = a;
            long rest = b;
            for (int i = 0; i < 200 && rest != 0; i++) {
                long less = high % rest;
                high = rest;
                rest = less;
            }
            return high;
        }
    }

    /** The order of guests in which a new candle is likeliest never put out. */
    private static final class Supper {
        private final Island island;
        private final Law law;
        private final int[] guests = new int[MOST_GUESTS];
        private final int[] order = new int[MOST_GUESTS];
        private final int[] keeps = new int[MOST_GUESTS * MOST_GUESTS];
        private final int[] best = new int[1 << MOST_GUESTS];
        private int count = 0;

        Supper(Island island, Law law) {
            this.island = island;
            this.law = law;
        }

        int guestAt(int i) {
            return i >= 0 && i < count ? order[i] : NONE;
        }

        void seat(int set, int thick) {
            invite(set);
            for (int guest = 0; guest < count; guest++) {
                for (int inch = 0; inch < count; inch++) {
                    keeps[guest * MOST_GUESTS + inch] = keptBy(guest, inch, thick);
                }
            }
            weigh();
            choose();
        }

        private void invite(int set) {
            count = 0;
            for (int house = 0; house < island.houses && count < MOST_GUESTS; house++) {
                if ((set >> house & 1) == 1) {
                    guests[count] = house;
                    count++;
                }
            }
        }

        /** How many chances of ten keep it lit at that inch; the first inch is handed to nobody. */
        private int keptBy(int guest, int inch, int thick) {
            return inch == 0 ? 1 : CHANCES - law.tellNew(OUT, guests[guest], thick, count, inch);
        }

        /** Best of a set of guests: what they keep at most, if they burn the last inches. */
        private void weigh() {
            best[0] = 1;
            for (int set = 1; set < 1 << count && set < best.length; set++) {
                best[set] = 0;
                for (int guest = 0; guest < count; guest++) {
                    if ((set >> guest & 1) == 1) {
                        best[set] = Math.max(best[set], leading(set, guest));
                    }
                }
            }
        }

        private int leading(int set, int guest) {
            int at = guest * MOST_GUESTS + count - Integer.bitCount(set);
            int rest = set & ~(1 << guest);
            if (at < 0 || at >= keeps.length || rest < 0 || rest >= best.length) {
                return 0;
            }
            return keeps[at] * best[rest];
        }

        /** What came so far is counted in: once it is 0, all that follow are like, and the lowest goes first. */
        private void choose() {
            int left = (1 << count) - 1;
            int greatest = best[left];
            int soFar = 1;
            for (int inch = 0; inch < count; inch++) {
                int guest = firstOf(left, soFar, greatest);
                order[inch] = guests[guest];
                soFar *= keeps[guest * MOST_GUESTS + inch];
                left &= ~(1 << guest);
            }
        }

        private int firstOf(int left, int soFar, int greatest) {
            for (int guest = 0; guest < count; guest++) {
                if ((left >> guest & 1) == 1 && soFar * leading(left, guest) == greatest) {
                    return guest;
                }
            }
            return 0;
        }
    }

    /** The candles two and two, so that the two that burn longest together burn as short as can be. */
    private static final class Weddings {
        private final Island island;
        private final Law law;
        private final int[] minutes = new int[MOST_CANDLES];
        private final int[] partner = new int[MOST_CANDLES];
        private final int[] bestPartner = new int[MOST_CANDLES];
        private int bestMost = NONE;

        Weddings(Island island, Law law) {
            this.island = island;
            this.law = law;
        }

        int partnerOf(int candle) {
            return island.isCandle(candle) ? bestPartner[candle] : NONE;
        }

        /** False: there are none. */
        boolean arrange() {
            bestMost = NONE;
            if (island.candles < 1 || island.candles % 2 != 0 || island.houses < 1) {
                return false;
            }
            for (int candle = 0; candle < island.candles; candle++) {
                partner[candle] = NONE;
                minutes[candle] = minutesLeft(candle);
            }
            marryFrom(0, 0);
            return true;
        }

        private int minutesLeft(int candle) {
            int sum = 0;
            for (int inch = island.next[candle]; inch < island.length[candle]; inch++) {
                sum += law.tell(BURNS, 0, candle, inch);
            }
            return sum;
        }

        /** The lowest partners are tried first, so that of like ones the first found stays. */
        private void marryFrom(int first, int most) {
            int one = first;
            while (one < island.candles && partner[one] != NONE) {
                one++;
            }
            if (one >= island.candles) {
                keepIfBetter(most);
                return;
            }
            for (int other = one + 1; other < island.candles; other++) {
                if (partner[other] == NONE) {
                    partner[one] = other;
                    partner[other] = one;
                    marryFrom(one + 1, Math.max(most, minutes[one] + minutes[other]));
                    partner[one] = NONE;
                    partner[other] = NONE;
                }
            }
        }

        private void keepIfBetter(int most) {
            if (bestMost != NONE && most >= bestMost) {
                return;
            }
            bestMost = most;
            for (int candle = 0; candle < island.candles; candle++) {
                bestPartner[candle] = partner[candle];
            }
        }
    }
}
