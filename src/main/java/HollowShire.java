/**
 * A shire whose ground falls into hollows that nobody sees; the words are those of ../shared/DOC.md.
 * Every row is made by a constructor and used again, because all calls of a run share one room.
 */
public final class HollowShire {
    public static final int NONE = -1, BAD = -2, STATE = -3, FULL = -4;
    public static final long NO = -4611686018427387904L;

    private static final int NOTHING_THERE = -11, OUTSIDE = -12, OTHER_SORT = -13, SIZE_BELOW_ZERO = -14;
    private static final int NO_SUCH = -5, NO_SUCH_WHAT = -7, FIRST_FAULT = -100;

    private static final int WIDTH = 8, CELLS = 64, ROCKS = 4;
    private static final int MOST_HOLLOW = 200, MOST_WATER = 9999, MOST_RAIN = 50, MOST_PUMPED = 50;
    private static final int LAST_MONTH = 1200, MONTHS_AT_ONCE = 60;
    private static final int HOUSES = 14, PUMPS = 6, SIGNS = 30, LOSTS = 8, WARNINGS = 30, TEXTS = 6;
    private static final int MOST_WORTH = 99999, MOST_PEOPLE = 99, MOST_VALUE = 99, MOST_LOST = 400;
    private static final int HARM_OF_ONE = 1000, MOST_PARTS = 99;
    private static final int KINDS = 6, TRUSTED = 8, AS_HOUSE = 6, AS_WARNING = 7;
    private static final int FIT_CELLS = 5, TAPE = 160, PARTS = 3;
    private static final int CHOICES = 8, MOST_PRICE = 9999, MOST_COIN = 1000000, MOST_ROOM = 999;
    private static final int SURE_ENOUGH = 30;
    private static final int SHEETS = 4, SORTS = 3, SHEET_SIZE = 40, SIGNS_AT_ONCE = 13;

    private final Built built = new Built();
    private final Ground now = new Ground(built);
    private final Ground aside = new Ground(built);
    private final Ground kept = new Ground(built);
    private boolean isKept = false;
    private final Signs signBook = new Signs();
    private final Told lostBook = new Told(LOSTS);
    private final Told warnBook = new Told(WARNINGS);
    private final Fit lastFit = new Fit();
    private final Rules rules = new Rules();
    private final Sheet[] rows = new Sheet[SHEETS];
    private final int[] lookWorth = new int[CHOICES];
    private int lookSet = 0;
    private int planSet = 0;

    public HollowShire() {
        for (int s = 0; s < SHEETS; s++) {
            rows[s] = new Sheet();
        }
        rules.feedFirstText();
        rules.takeTape();
    }

    // ---- the ground

    public int ground(int cell, int rock, int hollow) {
        if (!isCell(cell)) {
            return NONE;
        }
        if (!within(rock, 0, ROCKS - 1) || !within(hollow, 0, MOST_HOLLOW)) {
            return BAD;
        }
        if (now.hasFallen(cell)) {
            return STATE;
        }
        int was = now.hollow[cell];
        now.rock[cell] = rock;
        now.hollow[cell] = hollow;
        return was;
    }

    public int house(int cell, int worth, int people) {
        if (!isCell(cell)) {
            return NONE;
        }
        if (!within(worth, 1, MOST_WORTH) || !within(people, 0, MOST_PEOPLE)) {
            return BAD;
        }
        if (now.hasFallen(cell)) {
            return STATE;
        }
        if (built.houses >= HOUSES) {
            return FULL;
        }
        return built.addHouse(cell, worth, people);
    }

    public int pump(int cell) {
        if (!isCell(cell)) {
            return NONE;
        }
        if (built.pumps >= PUMPS) {
            return FULL;
        }
        return built.addPump(cell);
    }

    public int pumping(int p, int n) {
        if (!within(p, 0, built.pumps - 1)) {
            return NONE;
        }
        if (!within(n, 0, MOST_PUMPED)) {
            return BAD;
        }
        int was = now.pumped[p];
        now.pumped[p] = n;
        return was;
    }

    public int rain(int n) {
        if (!within(n, 0, MOST_RAIN)) {
            return BAD;
        }
        int was = now.rain;
        now.rain = n;
        return was;
    }

    public int move(int h) {
        if (!isHouse(h)) {
            return NONE;
        }
        if (now.gone[h] >= 0 || now.away[h]) {
            return STATE;
        }
        now.away[h] = true;
        return built.people[h];
    }

    public int run(int n) {
        if (!within(n, 1, MONTHS_AT_ONCE)) {
            return BAD;
        }
        if (!monthsAreLeft(n)) {
            return FULL;
        }
        now.passMonths(n);
        return now.month;
    }

    // ---- signs, fits

    public int sign(int kind, int cell, int value) {
        if (!isCell(cell)) {
            return NONE;
        }
        if (!within(kind, 0, KINDS - 1) || !within(value, 0, MOST_VALUE)) {
            return BAD;
        }
        if (signBook.size >= SIGNS) {
            return FULL;
        }
        return signBook.add(kind, cell, value, now.month);
    }

    public int mend(int k, int value) {
        if (!isSign(k)) {
            return NONE;
        }
        if (!within(value, 0, MOST_VALUE)) {
            return BAD;
        }
        if (signBook.mendMonth[k] >= 0) {
            return STATE;
        }
        signBook.mended[k] = value;
        signBook.mendMonth[k] = now.month;
        return signBook.value[k];
    }

    public int signTold(int k, int what, int known) {
        if (!isSign(k)) {
            return NONE;
        }
        if (!isKnown(known)) {
            return BAD;
        }
        int kind = signBook.kind[k];
        int value = signBook.valueKnown(k, known);
        switch (what) {
            case 0: return kind;
            case 1: return signBook.cell[k];
            case 2: return signBook.month[k];
            case 3: return value;
            case 4: return Signs.leastBy(kind, value);
            case 5: return Signs.mostBy(kind, value);
            case 6: return Signs.trustIn(kind);
            default: return BAD;
        }
    }

    public int span(int cell, int known, int what) {
        if (!isCell(cell)) {
            return NONE;
        }
        if (!isKnown(known) || !within(what, 0, 3)) {
            return BAD;
        }
        int trust = what >= 2 ? TRUSTED : 0;
        int least = signBook.least(cell, known, trust);
        int most = signBook.most(cell, known, trust);
        if (least > most) {
            return STATE;
        }
        return what % 2 == 0 ? least : most;
    }

    public int lost(int cell, int much) {
        if (!isCell(cell)) {
            return NONE;
        }
        if (!within(much, 1, MOST_LOST)) {
            return BAD;
        }
        if (lostBook.isFull()) {
            return FULL;
        }
        return lostBook.add(cell, much, now.month);
    }

    public int fit(int sheet, int known) {
        if (!isSheet(sheet)) {
            return NONE;
        }
        Sheet row = rows[sheet];
        if (row.isMissing()) {
            return NOTHING_THERE;
        }
        if (!within(row.size, 1, FIT_CELLS) || !isKnown(known) || !holdsUnlikeCells(row)) {
            return BAD;
        }
        lastFit.search(row, signBook, lostBook, known);
        return lastFit.rivals > 0 ? lastFit.fewest : STATE;
    }

    public int fitTold(int i, int what) {
        if (!within(i, 0, lastFit.cells - 1)) {
            return NONE;
        }
        if (!within(what, 0, 3)) {
            return BAD;
        }
        if (lastFit.rivals == 0) {
            return STATE;
        }
        switch (what) {
            case 0: return lastFit.best[i];
            case 1: return lastFit.least[i];
            case 2: return lastFit.greatest[i];
            default: return lastFit.rivals;
        }
    }

    // ---- rules

    public int feed(long w, int n) {
        if (!within(n, 1, 8)) {
            return BAD;
        }
        if (rules.tape.size + n > TAPE) {
            return FULL;
        }
        for (int b = n - 1; b >= 0; b--) {
            rules.tape.put((int) (w >>> (8 * b)) & 255);
        }
        return rules.tape.size;
    }

    public int text() {
        if (rules.texts >= TEXTS) {
            return FULL;
        }
        int fault = rules.takeTape();
        return fault >= 0 ? FIRST_FAULT - fault : rules.texts - 1;
    }

    public int force(int t) {
        if (!within(t, 0, rules.texts - 1)) {
            return BAD;
        }
        int was = rules.rule;
        rules.rule = t;
        return was;
    }

    public long law(int cell, int part, int known) {
        if (!isCell(cell) || !within(part, 0, PARTS - 1) || !isKnown(known)) {
            return NO;
        }
        return ruled(cell, part, known);
    }

    public long moved(int known) {
        if (!isKnown(known)) {
            return NO;
        }
        long cells = 0;
        for (int c = 0; c < CELLS; c++) {
            if (now.peopleAt(c) > 0 && ruled(c, 1, known) != 0) {
                cells |= 1L << c;
            }
        }
        return cells;
    }

    public long part(int h, int what) {
        if (!isHouse(h) || !within(what, 0, 1)) {
            return NO;
        }
        if (now.gone[h] < 0) {
            return STATE;
        }
        int owed = ruled(built.houseCell[h], 2, now.gone[h]);
        int parts = Math.max(0, Math.min(owed, MOST_PARTS));
        int harm = now.harmOf(h);
        int firms = harm * parts / (parts + 1);
        return what == 0 ? firms : harm - firms;
    }

    // ---- looks, chances, warnings

    public int looks(int sheet, int coin, int known) {
        if (!isSheet(sheet)) {
            return NONE;
        }
        Sheet row = rows[sheet];
        if (row.isMissing()) {
            return NOTHING_THERE;
        }
        if (!holdsLooks(row) || !within(coin, 0, MOST_COIN) || !isKnown(known)) {
            return BAD;
        }
        int looks = row.size / 2;
        for (int i = 0; i < looks && i < CHOICES; i++) {
            lookWorth[i] = worthOfLook(row.numbers[2 * i], known);
        }
        int most = 0;
        lookSet = 0;
        for (int set = 1; set < 1 << looks; set++) {
            int worth = priceOfSet(row, set) > coin ? 0 : worthOfSet(row, set);
            if (worth > most) {
                most = worth;
                lookSet = set;
            }
        }
        return most;
    }

    public int lookTold() {
        return lookSet;
    }

    public long often(int rock, int part) {
        if (!within(rock, 0, ROCKS - 1) || !within(part, 0, 1)) {
            return NO;
        }
        int falls = now.fallsOf[rock];
        int months = now.monthsOf[rock];
        int shared = greatestShared(falls, months);
        if (shared == 0) {
            return part;
        }
        return (part == 0 ? falls : months) / shared;
    }

    public int warn(int cell) {
        if (!isCell(cell)) {
            return NONE;
        }
        if (now.hasFallen(cell)) {
            return STATE;
        }
        if (warnBook.isFull()) {
            return FULL;
        }
        return warnBook.add(cell, 0, now.month);
    }

    public int warned(int months, int what) {
        if (!within(months, 1, MONTHS_AT_ONCE)) {
            return BAD;
        }
        switch (what) {
            case 0: return trueWarnings(months);
            case 1: return missedCells(months);
            case 2: return oldWarnings(months);
            default: return BAD;
        }
    }

    // ---- looking, ahead

    public int cellTold(int c, int what) {
        if (!isCell(c)) {
            return NO_SUCH;
        }
        switch (what) {
            case 0: return now.rock[c];
            case 1: return now.water[c];
            case 2: return now.fell[c];
            case 3: return now.hasFallen(c) ? now.hollow[c] : STATE;
            case 4: return now.peopleAt(c);
            default: return NO_SUCH_WHAT;
        }
    }

    public int houseTold(int h, int what) {
        if (!isHouse(h)) {
            return NO_SUCH;
        }
        switch (what) {
            case 0: return built.houseCell[h];
            case 1: return built.worth[h];
            case 2: return built.people[h];
            case 3: return now.gone[h];
            case 4: return now.away[h] ? 1 : 0;
            default: return NO_SUCH_WHAT;
        }
    }

    public long beside(int n, int pump, int pumped, int what) {
        if (!within(n, 1, MONTHS_AT_ONCE) || !within(pump, -1, built.pumps - 1)) {
            return NO;
        }
        if (!within(pumped, 0, MOST_PUMPED) || !within(what, 0, 2) || !monthsAreLeft(n)) {
            return NO;
        }
        aside.become(now);
        if (pump >= 0) {
            aside.pumped[pump] = pumped;
        }
        aside.passMonths(n);
        switch (what) {
            case 0: return aside.fallen - now.fallen;
            case 1: return aside.harm - now.harm;
            default: return aside.month;
        }
    }

    public long plan(int sheet, int room, int n) {
        if (!isSheet(sheet) || rows[sheet].isMissing()) {
            return NO;
        }
        Sheet row = rows[sheet];
        if (!holdsHouses(row) || !within(room, 0, MOST_ROOM)) {
            return NO;
        }
        if (!within(n, 1, MONTHS_AT_ONCE) || !monthsAreLeft(n)) {
            return NO;
        }
        aside.become(now);
        aside.passMonths(n);
        int most = 0;
        planSet = 0;
        // Moving people changes nothing in the ground, so one run of the months serves every set.
        for (int set = 1; set < 1 << row.size; set++) {
            int houses = housesOfSet(row, set);
            int spared = peopleToMove(houses) > room ? 0 : sparedBy(houses);
            if (spared > most) {
                most = spared;
                planSet = set;
            }
        }
        return aside.harm - now.harm - most;
    }

    public int planned() {
        return planSet;
    }

    public int image() {
        kept.become(now);
        isKept = true;
        return now.month;
    }

    public int back() {
        if (!isKept) {
            return STATE;
        }
        // The kept rows of houses and pumps that came since stand as they did before these came.
        now.become(kept);
        return now.month;
    }

    public int count(int what) {
        switch (what) {
            case 0: return now.month;
            case 1: return signBook.size;
            case 2: return built.houses;
            case 3: return built.pumps;
            case 4: return now.fallen;
            case 5: return now.harm;
            case 6: return warnBook.size;
            case 7: return rules.texts;
            case 8: return rules.rule;
            case 9: return rules.tape.size;
            case 10: return lostBook.size;
            case 11: return now.rain;
            default: return BAD;
        }
    }

    // ---- the host

    public int sheet(int s, int sort, int n) {
        if (!isSheet(s) || !within(sort, Sheet.MISSING, SORTS - 1)) {
            return BAD;
        }
        if (sort == Sheet.MISSING) {
            rows[s].sort = Sheet.MISSING;
            return 1;
        }
        if (n > SHEET_SIZE) {
            return BAD;
        }
        if (n < 0) {
            return SIZE_BELOW_ZERO;
        }
        rows[s].begin(sort, n);
        return 1;
    }

    public int cell(int s, int i, int v) {
        if (!isSheet(s)) {
            return BAD;
        }
        if (rows[s].isMissing()) {
            return NOTHING_THERE;
        }
        if (!rows[s].has(i)) {
            return OUTSIDE;
        }
        rows[s].put(i, v);
        return 1;
    }

    public int copy(int s, int i, int other, int j, int n) {
        if (!isSheet(s) || !isSheet(other)) {
            return BAD;
        }
        Sheet from = rows[s];
        Sheet to = rows[other];
        if (from.isMissing() || to.isMissing()) {
            return NOTHING_THERE;
        }
        if (from.sort != to.sort) {
            return OTHER_SORT;
        }
        if (n < 0 || !within(i, 0, from.size - n) || !within(j, 0, to.size - n)) {
            return OUTSIDE;
        }
        System.arraycopy(from.numbers, i, to.numbers, j, n);
        return n;
    }

    public int signs(int s, int sort, int from, int n) {
        if (!isSheet(s) || !within(sort, 0, SORTS - 1) || !within(n, 0, SIGNS_AT_ONCE)) {
            return BAD;
        }
        Sheet row = rows[s];
        if (row.isMissing()) {
            return NOTHING_THERE;
        }
        if (row.sort != sort) {
            return OTHER_SORT;
        }
        int came = 0;
        for (int k = 0; k < n; k++) {
            int at = from + 3 * k;
            if (!row.has(at) || !row.has(at + 2)) {
                return OUTSIDE;
            }
            if (sign(row.numbers[at], row.numbers[at + 1], row.numbers[at + 2]) >= 0) {
                came++;
            }
        }
        return came;
    }

    public int taken(int what, int i, int kind) {
        if (!within(what, 0, 2) || !within(kind, 0, AS_WARNING)) {
            return BAD;
        }
        switch (what) {
            case 0:
                if (!isSign(i)) {
                    return NOTHING_THERE;
                }
                return Signs.isOneOf(signBook.kind[i], kind) ? signBook.cell[i] : OTHER_SORT;
            case 1:
                if (!isHouse(i)) {
                    return NOTHING_THERE;
                }
                return kind == AS_HOUSE ? built.worth[i] : OTHER_SORT;
            default:
                if (!within(i, 0, warnBook.size - 1)) {
                    return NOTHING_THERE;
                }
                return kind == AS_WARNING ? warnBook.month[i] : OTHER_SORT;
        }
    }

    // ---- what arguments must be

    private static boolean within(int v, int low, int high) {
        return v >= low && v <= high;
    }

    private static boolean isCell(int c) {
        return within(c, 0, CELLS - 1);
    }

    private static boolean isSheet(int s) {
        return within(s, 0, SHEETS - 1);
    }

    private boolean isHouse(int h) {
        return within(h, 0, built.houses - 1);
    }

    private boolean isSign(int k) {
        return within(k, 0, signBook.size - 1);
    }

    private boolean isKnown(int month) {
        return within(month, 0, now.month);
    }

    private boolean monthsAreLeft(int n) {
        return n <= LAST_MONTH - now.month;
    }

    private static boolean holdsUnlikeCells(Sheet row) {
        long seen = 0;
        for (int i = 0; i < row.size; i++) {
            int c = row.numbers[i];
            if (!isCell(c) || (seen >>> c & 1) != 0) {
                return false;
            }
            seen |= 1L << c;
        }
        return true;
    }

    private static boolean holdsLooks(Sheet row) {
        if (row.size % 2 != 0 || row.size > 2 * CHOICES) {
            return false;
        }
        for (int i = 0; i + 1 < row.size; i += 2) {
            if (!isCell(row.numbers[i]) || !within(row.numbers[i + 1], 1, MOST_PRICE)) {
                return false;
            }
        }
        return true;
    }

    private boolean holdsHouses(Sheet row) {
        if (row.size > CHOICES) {
            return false;
        }
        for (int i = 0; i < row.size; i++) {
            if (!isHouse(row.numbers[i])) {
                return false;
            }
        }
        return true;
    }

    // ---- parts of longer answers

    private static boolean isNear(int one, int other) {
        int across = Math.abs(one % WIDTH - other % WIDTH);
        int down = Math.abs(one / WIDTH - other / WIDTH);
        return across + down <= 1;
    }

    private static int greatestShared(int a, int b) {
        for (int turn = 0; turn < 100 && b > 0; turn++) {
            int rest = a % b;
            a = b;
            b = rest;
        }
        return a;
    }

    private int ruled(int cell, int part, int known) {
        int least = signBook.least(cell, known, 0);
        int most = signBook.most(cell, known, 0);
        rules.tellSpan(least, most);
        rules.tellGround(now, cell, known);
        return rules.value(part);
    }

    private int worthOfLook(int cell, int known) {
        int doubt = signBook.most(cell, known, 0) - signBook.least(cell, known, 0);
        return Math.max(0, doubt - SURE_ENOUGH) * (now.peopleAt(cell) + 1);
    }

    private static int priceOfSet(Sheet row, int set) {
        int price = 0;
        for (int i = 0; 2 * i + 1 < row.size; i++) {
            if ((set >> i & 1) != 0) {
                price += row.numbers[2 * i + 1];
            }
        }
        return price;
    }

    private int worthOfSet(Sheet row, int set) {
        long seen = 0;
        int worth = 0;
        for (int i = 0; i < CHOICES && 2 * i < row.size; i++) {
            long cell = 1L << row.numbers[2 * i];
            if ((set >> i & 1) != 0 && (seen & cell) == 0) {
                seen |= cell;
                worth += lookWorth[i];
            }
        }
        return worth;
    }

    private boolean cameTrue(int warning, int months) {
        int fell = now.fell[warnBook.cell[warning]];
        int told = warnBook.month[warning];
        return fell >= 0 && within(fell, told, told + months);
    }

    private int trueWarnings(int months) {
        int came = 0;
        for (int i = 0; i < warnBook.size; i++) {
            came += cameTrue(i, months) ? 1 : 0;
        }
        return came;
    }

    private int oldWarnings(int months) {
        int old = 0;
        for (int i = 0; i < warnBook.size; i++) {
            boolean isLongAgo = now.month - warnBook.month[i] > months;
            old += isLongAgo && !cameTrue(i, months) ? 1 : 0;
        }
        return old;
    }

    private int missedCells(int months) {
        long warnedOf = 0;
        for (int i = 0; i < warnBook.size; i++) {
            if (cameTrue(i, months)) {
                warnedOf |= 1L << warnBook.cell[i];
            }
        }
        // A warning comes true only of a cell that fell.
        return now.fallen - Long.bitCount(warnedOf);
    }

    private static int housesOfSet(Sheet row, int set) {
        int houses = 0;
        for (int i = 0; i < row.size; i++) {
            if ((set >> i & 1) != 0) {
                houses |= 1 << row.numbers[i];
            }
        }
        return houses;
    }

    private int peopleToMove(int houses) {
        int people = 0;
        for (int h = 0; h < built.houses; h++) {
            if ((houses >> h & 1) != 0 && !now.away[h]) {
                people += built.people[h];
            }
        }
        return people;
    }

    private int sparedBy(int houses) {
        int spared = 0;
        for (int h = 0; h < built.houses; h++) {
            boolean goes = now.gone[h] < 0 && aside.gone[h] >= 0;
            if ((houses >> h & 1) != 0 && !now.away[h] && goes) {
                spared += HARM_OF_ONE * built.people[h];
            }
        }
        return spared;
    }

    /** Which houses and pumps there are; an image does not keep this. */
    private static final class Built {
        int houses = 0;
        int pumps = 0;
        final int[] houseCell = new int[HOUSES];
        final int[] worth = new int[HOUSES];
        final int[] people = new int[HOUSES];
        final int[] pumpCell = new int[PUMPS];

        int addHouse(int cell, int itsWorth, int itsPeople) {
            if (houses >= HOUSES) {
                return FULL;
            }
            houseCell[houses] = cell;
            worth[houses] = itsWorth;
            people[houses] = itsPeople;
            houses++;
            return houses - 1;
        }

        int addPump(int cell) {
            if (pumps >= PUMPS) {
                return FULL;
            }
            pumpCell[pumps] = cell;
            pumps++;
            return pumps - 1;
        }
    }

    /** All of the ground that an image keeps, and how a month goes by there. */
    private static final class Ground {
        private static final int[] SOLVES = {0, 2, 5, 1};
        private static final int[] BEARS = {120, 90, 70, 60};

        final Built built;
        int month = 0;
        int rain = 0;
        int fallen = 0;
        int harm = 0;
        final int[] rock = new int[CELLS];
        final int[] hollow = new int[CELLS];
        final int[] water = new int[CELLS];
        final int[] fell = new int[CELLS];
        final int[] fallsOf = new int[ROCKS];
        final int[] monthsOf = new int[ROCKS];
        final int[] pumped = new int[PUMPS];
        final int[] gone = new int[HOUSES];
        final boolean[] away = new boolean[HOUSES];
        private final int[] goesDown = new int[CELLS];
        private final int[] goesAcross = new int[CELLS];

        Ground(Built built) {
            this.built = built;
            for (int c = 0; c < CELLS; c++) {
                fell[c] = -1;
            }
            for (int h = 0; h < HOUSES; h++) {
                gone[h] = -1;
            }
        }

        void become(Ground other) {
            month = other.month;
            rain = other.rain;
            fallen = other.fallen;
            harm = other.harm;
            System.arraycopy(other.rock, 0, rock, 0, CELLS);
            System.arraycopy(other.hollow, 0, hollow, 0, CELLS);
            System.arraycopy(other.water, 0, water, 0, CELLS);
            System.arraycopy(other.fell, 0, fell, 0, CELLS);
            System.arraycopy(other.fallsOf, 0, fallsOf, 0, ROCKS);
            System.arraycopy(other.monthsOf, 0, monthsOf, 0, ROCKS);
            System.arraycopy(other.pumped, 0, pumped, 0, PUMPS);
            System.arraycopy(other.gone, 0, gone, 0, HOUSES);
            System.arraycopy(other.away, 0, away, 0, HOUSES);
        }

        boolean hasFallen(int cell) {
            return fell[cell] >= 0;
        }

        int peopleAt(int cell) {
            int people = 0;
            for (int h = 0; h < built.houses; h++) {
                if (built.houseCell[h] == cell && gone[h] < 0 && !away[h]) {
                    people += built.people[h];
                }
            }
            return people;
        }

        int pumpsNear(int cell) {
            int near = 0;
            for (int p = 0; p < built.pumps; p++) {
                if (pumped[p] > 0 && isNear(built.pumpCell[p], cell)) {
                    near++;
                }
            }
            return near;
        }

        int harmOf(int h) {
            return built.worth[h] + (away[h] ? 0 : HARM_OF_ONE * built.people[h]);
        }

        void passMonths(int n) {
            for (int i = 0; i < n; i++) {
                rainDown();
                pumpOut();
                flow();
                letFall();
                month++;
            }
        }

        private void rainDown() {
            for (int c = 0; c < CELLS; c++) {
                water[c] = Math.min(water[c] + rain, MOST_WATER);
            }
        }

        private void pumpOut() {
            for (int p = 0; p < built.pumps; p++) {
                int c = built.pumpCell[p];
                int much = Math.min(pumped[p], water[c]);
                water[c] -= much;
                solve(c, much);
            }
        }

        // All flows are measured before any water goes, because they go at once.
        private void flow() {
            for (int c = 0; c < CELLS; c++) {
                goesDown[c] = c + WIDTH < CELLS ? (water[c] - water[c + WIDTH]) / 8 : 0;
                goesAcross[c] = c % WIDTH < WIDTH - 1 ? (water[c] - water[c + 1]) / 8 : 0;
            }
            for (int c = 0; c < CELLS; c++) {
                if (c + WIDTH < CELLS) {
                    go(c, c + WIDTH, goesDown[c]);
                }
                if (c % WIDTH < WIDTH - 1) {
                    go(c, c + 1, goesAcross[c]);
                }
            }
        }

        private void go(int from, int to, int much) {
            water[from] -= much;
            water[to] += much;
            solve(from, Math.abs(much));
            solve(to, Math.abs(much));
        }

        // Hollows move no water within a month, so they may grow as soon as the water went by.
        private void solve(int c, int much) {
            if (!hasFallen(c)) {
                hollow[c] = Math.min(hollow[c] + much * SOLVES[rock[c]] / 10, MOST_HOLLOW);
            }
        }

        private void letFall() {
            for (int c = 0; c < CELLS; c++) {
                if (hasFallen(c)) {
                    continue;
                }
                monthsOf[rock[c]]++;
                if (hollow[c] > BEARS[rock[c]] + water[c] / 20) {
                    fell[c] = month;
                    fallen++;
                    fallsOf[rock[c]]++;
                    takeHouses(c);
                }
            }
        }

        private void takeHouses(int c) {
            for (int h = 0; h < built.houses; h++) {
                if (built.houseCell[h] == c && gone[h] < 0) {
                    gone[h] = month;
                    harm += harmOf(h);
                }
            }
        }
    }

    /** The signs, and what they say of a cell as known in a month. */
    private static final class Signs {
        private static final int DIP = 1, LOOK = 2, CRACK = 3, WEIGH = 4, OLD = 5;
        private static final int[] KIND_ABOVE = {-1, 0, 0, 1, 2, 0};

        int size = 0;
        final int[] kind = new int[SIGNS];
        final int[] cell = new int[SIGNS];
        final int[] value = new int[SIGNS];
        final int[] month = new int[SIGNS];
        final int[] mended = new int[SIGNS];
        final int[] mendMonth = new int[SIGNS];

        int add(int itsKind, int itsCell, int itsValue, int itsMonth) {
            if (size >= SIGNS) {
                return FULL;
            }
            kind[size] = itsKind;
            cell[size] = itsCell;
            value[size] = itsValue;
            month[size] = itsMonth;
            mendMonth[size] = -1;
            size++;
            return size - 1;
        }

        int valueKnown(int k, int known) {
            return mendMonth[k] >= 0 && mendMonth[k] <= known ? mended[k] : value[k];
        }

        int least(int c, int known, int trust) {
            int least = 0;
            for (int k = 0; k < size; k++) {
                if (speaks(k, c, known, trust)) {
                    least = Math.max(least, leastBy(kind[k], valueKnown(k, known)));
                }
            }
            return least;
        }

        int most(int c, int known, int trust) {
            int most = MOST_HOLLOW;
            for (int k = 0; k < size; k++) {
                if (speaks(k, c, known, trust)) {
                    most = Math.min(most, mostBy(kind[k], valueKnown(k, known)));
                }
            }
            return most;
        }

        private boolean speaks(int k, int c, int known, int trust) {
            return cell[k] == c && month[k] <= known && trustIn(kind[k]) >= trust;
        }

        static int leastBy(int kind, int v) {
            int ofSign = v > 0 ? 1 : 0;
            int ofDip = 2 * v;
            int ofLook = Math.max(v - 15, 0);
            switch (kind) {
                case DIP: return ofDip;
                case LOOK: return ofLook;
                case CRACK: return ofDip / 4;
                case WEIGH: return ofLook / 2;
                case OLD: return 10 * ofSign;
                default: return ofSign;
            }
        }

        static int mostBy(int kind, int v) {
            int ofLook = v + 15;
            switch (kind) {
                case LOOK: return ofLook;
                case WEIGH: return ofLook + 25;
                default: return MOST_HOLLOW;
            }
        }

        static int trustIn(int kind) {
            int ofSign = 10;
            switch (kind) {
                case LOOK:
                case WEIGH: return ofSign - 2;
                case CRACK: return ofSign / 2;
                case OLD: return 3;
                default: return ofSign;
            }
        }

        static boolean isOneOf(int kind, int other) {
            int k = kind;
            for (int step = 0; step < KINDS && k >= 0 && k < KINDS; step++) {
                if (k == other) {
                    return true;
                }
                k = KIND_ABOVE[k];
            }
            return false;
        }
    }

    /** What was told of cells in months: lost waters, which have a size, or warnings, which have none. */
    private static final class Told {
        int size = 0;
        final int[] cell;
        final int[] much;
        final int[] month;

        Told(int room) {
            int length = Math.max(room, 0);
            cell = new int[length];
            much = new int[length];
            month = new int[length];
        }

        boolean isFull() {
            return size >= cell.length;
        }

        int add(int itsCell, int itsSize, int itsMonth) {
            if (isFull()) {
                return FULL;
            }
            cell[size] = itsCell;
            much[size] = itsSize;
            month[size] = itsMonth;
            size++;
            return size - 1;
        }
    }

    /** The fit that was asked last: its best sizes, and what all sizes as good have. */
    private static final class Fit {
        private static final int[] SIZES = {0, 10, 25, 50, 100};

        int cells = 0;
        int rivals = 0;
        int fewest = 0;
        int together = 0;
        final int[] best = new int[FIT_CELLS];
        final int[] least = new int[FIT_CELLS];
        final int[] greatest = new int[FIT_CELLS];
        private final int[] low = new int[FIT_CELLS];
        private final int[] high = new int[FIT_CELLS];
        private final int[] sizes = new int[FIT_CELLS];
        private int needs = 0;
        private final int[] needed = new int[LOSTS];
        private final int[] neededOf = new int[LOSTS];

        void search(Sheet row, Signs signs, Told lost, int known) {
            cells = Math.min(row.size, FIT_CELLS);
            rivals = 0;
            for (int i = 0; i < cells; i++) {
                low[i] = signs.least(row.numbers[i], known, 0);
                high[i] = signs.most(row.numbers[i], known, 0);
            }
            gatherNeeds(row, lost, known);
            int all = 1;
            for (int i = 0; i < cells; i++) {
                all *= SIZES.length;
            }
            // Counting up goes by the cells' order, so the first of like ones is met first.
            for (int number = 0; number < all; number++) {
                if (takeSizes(number) && meetsNeeds()) {
                    weighUp();
                }
            }
        }

        private void gatherNeeds(Sheet row, Told lost, int known) {
            needs = 0;
            for (int k = 0; k < lost.size && needs < LOSTS; k++) {
                int near = 0;
                for (int i = 0; i < cells; i++) {
                    near |= isNear(lost.cell[k], row.numbers[i]) ? 1 << i : 0;
                }
                if (near != 0 && lost.month[k] <= known) {
                    needed[needs] = lost.much[k];
                    neededOf[needs] = near;
                    needs++;
                }
            }
        }

        private boolean takeSizes(int number) {
            int rest = number;
            for (int i = cells - 1; i >= 0; i--) {
                sizes[i] = SIZES[rest % SIZES.length];
                rest /= SIZES.length;
                if (sizes[i] < low[i] || sizes[i] > high[i]) {
                    return false;
                }
            }
            return true;
        }

        private boolean meetsNeeds() {
            for (int k = 0; k < needs; k++) {
                int sum = 0;
                for (int i = 0; i < cells; i++) {
                    sum += (neededOf[k] >> i & 1) != 0 ? sizes[i] : 0;
                }
                if (sum < needed[k]) {
                    return false;
                }
            }
            return true;
        }

        private void weighUp() {
            int few = 0;
            int sum = 0;
            for (int i = 0; i < cells; i++) {
                few += sizes[i] > 0 ? 1 : 0;
                sum += sizes[i];
            }
            if (rivals == 0 || few < fewest || few == fewest && sum < together) {
                rivals = 1;
                fewest = few;
                together = sum;
                System.arraycopy(sizes, 0, best, 0, FIT_CELLS);
                System.arraycopy(sizes, 0, least, 0, FIT_CELLS);
                System.arraycopy(sizes, 0, greatest, 0, FIT_CELLS);
            } else if (few == fewest && sum == together) {
                rivals++;
                for (int i = 0; i < cells; i++) {
                    least[i] = Math.min(least[i], sizes[i]);
                    greatest[i] = Math.max(greatest[i], sizes[i]);
                }
            }
        }
    }

    /** The bytes that were fed, and the tokens that they make. */
    private static final class Tape {
        // A mark is its own kind; the keys stand from BUILD on, in the order of wordAt.
        static final int END = 0, FAULTY = 1, NUMBER = 2, NAME = 3;
        static final int BUILD = 300, OR = 303, AND = 304, NOT = 305;
        private static final int KEYS = 6, WORDS = 14, DIGITS = 4;

        int size = 0;
        int tokens = 0;
        private final int[] bytes = new int[TAPE];
        private final int[] place = new int[TAPE];
        private final int[] length = new int[TAPE];
        private final int[] kind = new int[TAPE];
        private final int[] number = new int[TAPE];

        void put(int b) {
            if (size < TAPE) {
                bytes[size] = b;
                size++;
            }
        }

        int kindAt(int t) {
            return t >= 0 && t < tokens ? kind[t] : END;
        }

        int placeAt(int t) {
            return t >= 0 && t < tokens ? place[t] : size;
        }

        /** A number's worth, a name's place among the names. */
        int numberAt(int t) {
            return t >= 0 && t < tokens ? number[t] : 0;
        }

        void split() {
            tokens = 0;
            for (int at = 0; at < size && at < TAPE; at++) {
                int b = bytes[at];
                if (at > 0 && tokens > 0 && goOn(bytes[at - 1], b)) {
                    length[tokens - 1]++;
                } else if (b != 32 && b != 10) {
                    place[tokens] = at;
                    length[tokens] = 1;
                    tokens++;
                }
            }
            for (int t = 0; t < tokens; t++) {
                tellKind(t);
            }
        }

        private static boolean goOn(int b, int next) {
            return isLetter(b) && isLetter(next) || isDigit(b) && isDigit(next);
        }

        private void tellKind(int t) {
            int first = bytes[place[t]];
            if (isLetter(first)) {
                tellWord(t);
            } else if (isDigit(first)) {
                tellNumber(t);
            } else {
                kind[t] = isMark(first) ? first : FAULTY;
            }
        }

        private void tellWord(int t) {
            kind[t] = FAULTY;
            for (int w = 0; w < WORDS; w++) {
                if (spells(t, wordAt(w))) {
                    kind[t] = w < KEYS ? BUILD + w : NAME;
                    number[t] = w - KEYS;
                }
            }
        }

        private boolean spells(int t, String word) {
            if (word.length() != length[t]) {
                return false;
            }
            for (int i = 0; i < word.length() && place[t] + i < size; i++) {
                if (word.charAt(i) != bytes[place[t] + i]) {
                    return false;
                }
            }
            return true;
        }

        private void tellNumber(int t) {
            kind[t] = length[t] > DIGITS ? FAULTY : NUMBER;
            number[t] = 0;
            for (int i = 0; i < length[t] && i < DIGITS; i++) {
                number[t] = number[t] * 10 + bytes[place[t] + i] - '0';
            }
        }

        private static boolean isLetter(int b) {
            return b >= 'a' && b <= 'z';
        }

        private static boolean isDigit(int b) {
            return b >= '0' && b <= '9';
        }

        private static boolean isMark(int b) {
            switch (b) {
                case '(':
                case ')':
                case ';':
                case '+':
                case '-':
                case '*':
                case '<':
                case '=': return true;
                default: return false;
            }
        }

        private static String wordAt(int w) {
            switch (w) {
                case 0: return "build";
                case 1: return "move";
                case 2: return "owe";
                case 3: return "or";
                case 4: return "and";
                case 5: return "not";
                case 6: return "doubt";
                case 7: return "least";
                case 8: return "most";
                case 9: return "rock";
                case 10: return "people";
                case 11: return "pump";
                case 12: return "fell";
                default: return "month";
            }
        }
    }

    /** A text as steps for a stack: from 0 on numbers, below 0 names, and behind these what is done. */
    private static final class Text {
        static final int NAMES = 8, FIRST_NAME = -1, LAST_NAME = -8;
        static final int OR = -11, AND = -12, NOT = -13, LESS = -14, LIKE = -15;
        static final int PLUS = -16, MINUS = -17, TIMES = -18, NEGATE = -19;

        int steps = 0;
        final int[] step = new int[TAPE];
        final int[] partEnd = new int[PARTS];

        void add(int s) {
            if (steps < TAPE) {
                step[steps] = s;
                steps++;
            }
        }

        void become(Text other) {
            steps = other.steps;
            System.arraycopy(other.step, 0, step, 0, TAPE);
            System.arraycopy(other.partEnd, 0, partEnd, 0, PARTS);
        }
    }

    /** Reads the tape's tokens into a text, or finds the place of its fault. */
    private static final class Reader {
        private static final int MOST_OPEN = 5;

        final Text made = new Text();
        private final Tape tape;
        private int next = 0;
        private int token = Tape.END;
        private int fault = -1;

        Reader(Tape tape) {
            this.tape = tape;
        }

        /** The place of the fault, -1 if there is none. */
        int read() {
            made.steps = 0;
            fault = -1;
            next = 0;
            token = tape.kindAt(0);
            for (int p = 0; p < PARTS; p++) {
                expect(Tape.BUILD + p);
                readOr(0);
                expect(';');
                made.partEnd[p] = made.steps;
            }
            expect(Tape.END);
            return fault;
        }

        private void readOr(int open) {
            readAnd(open);
            for (int turn = 0; turn < TAPE && token == Tape.OR; turn++) {
                advance();
                readAnd(open);
                made.add(Text.OR);
            }
        }

        private void readAnd(int open) {
            readNot(open);
            for (int turn = 0; turn < TAPE && token == Tape.AND; turn++) {
                advance();
                readNot(open);
                made.add(Text.AND);
            }
        }

        private void readNot(int open) {
            if (token == Tape.NOT && open < MOST_OPEN) {
                advance();
                readNot(open + 1);
                made.add(Text.NOT);
                return;
            }
            readSum(open);
            if (token == '<' || token == '=') {
                int doing = token == '<' ? Text.LESS : Text.LIKE;
                advance();
                readSum(open);
                made.add(doing);
            }
        }

        private void readSum(int open) {
            readTerm(open);
            for (int turn = 0; turn < TAPE && (token == '+' || token == '-'); turn++) {
                int doing = token == '+' ? Text.PLUS : Text.MINUS;
                advance();
                readTerm(open);
                made.add(doing);
            }
        }

        private void readTerm(int open) {
            readOne(open);
            for (int turn = 0; turn < TAPE && token == '*'; turn++) {
                advance();
                readOne(open);
                made.add(Text.TIMES);
            }
        }

        private void readOne(int open) {
            if (token == Tape.NUMBER) {
                made.add(tape.numberAt(next));
                advance();
            } else if (token == Tape.NAME) {
                made.add(Text.FIRST_NAME - tape.numberAt(next));
                advance();
            } else if (token == '-' && open < MOST_OPEN) {
                advance();
                readOne(open + 1);
                made.add(Text.NEGATE);
            } else if (token == '(' && open < MOST_OPEN) {
                advance();
                readOr(open + 1);
                expect(')');
            } else {
                refuse();
            }
        }

        private void expect(int wanted) {
            if (token == wanted) {
                advance();
            } else {
                refuse();
            }
        }

        private void advance() {
            next++;
            token = tape.kindAt(next);
        }

        // Behind the first fault the token stays faulty: it fits nowhere, so that reading ends soon.
        private void refuse() {
            if (fault < 0) {
                fault = tape.placeAt(next);
            }
            token = Tape.FAULTY;
        }
    }

    /** The texts, which of them is the rule, and what it comes to. */
    private static final class Rules {
        private static final String FIRST_TEXT =
            "build doubt < 30 and rock < 2 ; move 60 < most or fell ; owe pump * 3 + rock ;";

        final Tape tape = new Tape();
        int texts = 0;
        int rule = 0;
        private final Reader reader = new Reader(tape);
        private final Text[] all = new Text[TEXTS];
        private final int[] named = new int[Text.NAMES];
        private final int[] stack = new int[TAPE];

        Rules() {
            for (int t = 0; t < TEXTS; t++) {
                all[t] = new Text();
            }
        }

        void feedFirstText() {
            for (int i = 0; i < FIRST_TEXT.length(); i++) {
                tape.put(FIRST_TEXT.charAt(i));
            }
        }

        /** Where the tape's fault is, -1 if it is a text now; the tape is empty then. */
        int takeTape() {
            tape.split();
            int fault = reader.read();
            tape.size = 0;
            if (fault < 0 && texts < TEXTS) {
                all[texts].become(reader.made);
                texts++;
            }
            return fault;
        }

        void tellSpan(int least, int most) {
            named[0] = Math.max(most - least, 0);
            named[1] = least;
            named[2] = most;
        }

        void tellGround(Ground ground, int cell, int known) {
            named[3] = ground.rock[cell];
            named[4] = ground.peopleAt(cell);
            named[5] = ground.pumpsNear(cell);
            named[6] = ground.hasFallen(cell) && ground.fell[cell] <= known ? 1 : 0;
            named[7] = known;
        }

        int value(int part) {
            Text text = all[rule];
            int top = 0;
            for (int i = part == 0 ? 0 : text.partEnd[part - 1]; i < text.partEnd[part]; i++) {
                int step = text.step[i];
                if (step >= Text.LAST_NAME && top < TAPE) {
                    stack[top] = step >= 0 ? step : named[Text.FIRST_NAME - step];
                    top++;
                } else if (step == Text.NOT && top >= 1) {
                    stack[top - 1] = stack[top - 1] == 0 ? 1 : 0;
                } else if (step == Text.NEGATE && top >= 1) {
                    stack[top - 1] = -stack[top - 1];
                } else if (top >= 2) {
                    top--;
                    stack[top - 1] = joined(step, stack[top - 1], stack[top]);
                }
            }
            return stack[0];
        }

        private static int joined(int step, int a, int b) {
            switch (step) {
                case Text.OR: return a != 0 || b != 0 ? 1 : 0;
                case Text.AND: return a != 0 && b != 0 ? 1 : 0;
                case Text.LESS: return a < b ? 1 : 0;
                case Text.LIKE: return a == b ? 1 : 0;
                case Text.PLUS: return a + b;
                case Text.MINUS: return a - b;
                default: return a * b;
            }
        }
    }

    /** A row of numbers, or none: bytes, shorts or ints by its sort. */
    private static final class Sheet {
        static final int MISSING = -1, BYTES = 0, SHORTS = 1;

        int sort = MISSING;
        int size = 0;
        final int[] numbers = new int[SHEET_SIZE];

        boolean isMissing() {
            return sort == MISSING;
        }

        boolean has(int i) {
            return !isMissing() && within(i, 0, size - 1);
        }

        void begin(int itsSort, int itsSize) {
            sort = itsSort;
            size = Math.max(0, Math.min(itsSize, SHEET_SIZE));
            for (int i = 0; i < SHEET_SIZE; i++) {
                numbers[i] = 0;
            }
        }

        void put(int i, int v) {
            if (has(i)) {
                switch (sort) {
                    case BYTES:
                        numbers[i] = (byte) v;
                        break;
                    case SHORTS:
                        numbers[i] = (short) v;
                        break;
                    default:
                        numbers[i] = v;
                }
            }
        }
    }
}
