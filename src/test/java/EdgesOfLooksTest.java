import java.util.Arrays;
import java.util.function.Supplier;

/** Looks and warnings of Terms 4, and promises 22 to 26, at their edges. */
public final class EdgesOfLooksTest {
    private static final Due DUE = new Due();
    private static final String FOUR = "Terms 4";

    public static void main(String[] args) {
        looksOfSheets();
        looksForCoin();
        looksAsBits();
        looksByDoubt();
        looksByPeople();
        warnings();
        warningsOfTrue();
        warningsOld();
        cellsMissed();
        promise22();
        promise22Refusals();
        promise23();
        promise24();
        promise24Refusals();
        promise25();
        promise26();
        DUE.end("EdgesOfLooksTest");
    }

    private static int looks(HollowShire x, int coin, int... row) {
        Due.fill(x, 0, 2, row);
        return x.looks(0, coin, x.count(0));
    }

    private static void looksOfSheets() {
        DUE.says(FOUR, "LOOKS by a SHEET (two by two: a CELL, a price 1 .. 9999; 0 to 8 of them)");
        HollowShire x = new HollowShire();
        DUE.is("none", looks(x, 5), 0);
        DUE.is("its set", x.lookTold(), 0);
        DUE.is("one number", looks(x, 5, 9), -2);
        DUE.is("one", looks(x, 5, 9, 1), 170);
        DUE.is("three numbers", looks(x, 5, 9, 1, 10), -2);
        int[] eight = new int[16];
        for (int i = 0; i < 8; i++) {
            eight[2 * i] = i * 9;
            eight[2 * i + 1] = 9999;
        }
        DUE.is("eight", looks(x, 8 * 9999, eight), 8 * 170);
        DUE.is("all of them", x.lookTold(), 255);
        for (int n = 17; n <= 18; n++) {
            int[] more = new int[n];
            Arrays.fill(more, 1);
            DUE.is(n + " numbers", looks(x, 5, more), -2);
        }
        int[][] bad = {{-1, 1}, {64, 1}, {9, 0}, {9, -1}, {9, 10000}, {9, 1, 64, 1}, {9, 1, 10, 0}};
        for (int[] row : bad) DUE.is("looks " + Arrays.toString(row), looks(x, 5, row), -2);
        int[][] good = {{0, 1}, {63, 1}, {9, 9999}};
        for (int[] row : good) DUE.is("looks " + Arrays.toString(row), looks(x, 9999, row), 170);
    }

    private static void looksForCoin() {
        DUE.says(FOUR, "for coin, as KNOWN in a MONTH: of all sets whose prices come to the coin at most: the most WORTH,");
        HollowShire x = new HollowShire();
        int[] row = {9, 3, 10, 4, 11, 5};
        int[][] tries = {{0, 0, 0}, {1, 0, 0}, {2, 0, 0}, {3, 170, 1}, {6, 170, 1}, {7, 340, 3}, {8, 340, 3}, {11, 340, 3}, {12, 510, 7},
            {1000000, 510, 7}};
        for (int[] t : tries) {
            DUE.is("coin " + t[0], looks(x, t[0], row), t[1]);
            DUE.is("set by coin " + t[0], x.lookTold(), t[2]);
        }
        x.house(11, 1, 1);
        x.house(11, 1, 1);
        DUE.is("one for three", looks(x, 7, row), 510);
        DUE.is("its set", x.lookTold(), 4);
        x.run(1);
        x.sign(2, 11, 50);
        Due.fill(x, 0, 2, row);
        DUE.is("as known in 0", x.looks(0, 5, 0), 510);
        DUE.is("as known in 1", x.looks(0, 5, 1), 170);
        DUE.is("the first one then", x.lookTold(), 1);
    }

    private static void looksAsBits() {
        DUE.says(FOUR, "of like ones the least as bits:");
        HollowShire x = new HollowShire();
        DUE.is("two of three", looks(x, 2, 9, 1, 10, 1, 11, 1), 340);
        DUE.is("the first two", x.lookTold(), 3);
        looks(x, 2, 9, 2, 10, 1, 11, 1);
        DUE.is("the last two", x.lookTold(), 6);
        looks(x, 2, 9, 1, 10, 2, 11, 1);
        DUE.is("the first and the last", x.lookTold(), 5);
        x.sign(2, 12, 50);
        looks(x, 100, 12, 1, 9, 1, 12, 1);
        DUE.is("what is worth nothing is in no set", x.lookTold(), 2);
        DUE.is("nothing at all", looks(x, 100, 12, 1), 0);
        DUE.is("no set", x.lookTold(), 0);
    }

    /** The worth of a look at cell 9, which has this LEAST by a DIP and this MOST by a WEIGH. */
    private static int worth(int least, int most, int people) {
        HollowShire x = new HollowShire();
        x.sign(1, 9, least / 2);
        x.sign(4, 9, most - 40);
        x.house(9, 1, people);
        return looks(x, 1, 9, 1);
    }

    private static void looksByDoubt() {
        DUE.says(FOUR, "of each CELL (once): what its doubt is above 30, times (its people and 1).");
        DUE.is("doubt 29", worth(40, 69, 0), 0);
        DUE.is("doubt 30", worth(40, 70, 0), 0);
        DUE.is("doubt 31", worth(40, 71, 0), 1);
        DUE.is("doubt 32", worth(40, 72, 0), 2);
        DUE.is("doubt 0", worth(50, 50, 9), 0);
        DUE.is("a span that is none", worth(198, 40, 9), 0);
        DUE.is("doubt 97, from the WEIGH's own 42 on", worth(0, 139, 0), 67);
        HollowShire x = new HollowShire();
        DUE.is("doubt 200", looks(x, 1, 9, 1), 170);
        DUE.is("each cell once", looks(x, 9, 9, 1, 9, 1, 9, 1), 170);
    }

    private static void looksByPeople() {
        DUE.says(FOUR, "times (its people and 1).");
        DUE.is("nobody", worth(40, 71, 0), 1);
        DUE.is("one", worth(40, 71, 1), 2);
        DUE.is("99", worth(40, 71, 99), 100);
        DUE.is("doubt 30, with people", worth(40, 70, 99), 0);
        HollowShire x = new HollowShire();
        for (int h = 0; h < 14; h++) x.house(9, 1, 99);
        DUE.is("14 houses", looks(x, 1, 9, 1), 170 * (14 * 99 + 1));
        x.move(0);
        DUE.is("one is moved", looks(x, 1, 9, 1), 170 * (13 * 99 + 1));
        x.ground(9, 0, 200);
        x.run(1);
        DUE.is("all are gone", looks(x, 1, 9, 1), 170);
        HollowShire eight = new HollowShire();
        for (int h = 0; h < 14; h++) eight.house(h % 8, 1, 99);
        DUE.is("eight cells", looks(eight, 8, 0, 1, 1, 1, 2, 1, 3, 1, 4, 1, 5, 1, 6, 1, 7, 1), 170 * (14 * 99 + 8));
    }

    private static void warnings() {
        DUE.says(FOUR, "WARNINGS (30 at most): of a CELL in a MONTH.");
        HollowShire x = new HollowShire();
        for (int i = 0; i < 30; i++) {
            DUE.is("number", x.warn(i), i);
            x.run(1);
        }
        DUE.is("the 31st", x.warn(0), -4);
        DUE.is("there are 30", x.count(6), 30);
        for (int i = 0; i < 30; i++) DUE.is("month of " + i, x.taken(2, i, 7), i);
    }

    /** A warning of month 5, and its cell falls in this month; the month is this one then. */
    private static HollowShire warnedOf(int fell, int month) {
        HollowShire x = new HollowShire();
        x.run(5);
        x.warn(9);
        Due.run(x, fell - 5);
        x.ground(9, 0, 200);
        Due.run(x, month - fell);
        return x;
    }

    private static void warningsOfTrue() {
        DUE.says(FOUR, "One came TRUE within m MONTHS, if the CELL FELL in that MONTH, or so many behind it at most.");
        int[][] tries = {{5, 1, 1}, {6, 1, 1}, {7, 1, 0}, {7, 2, 1}, {8, 2, 0}, {64, 59, 1}, {65, 59, 0}, {65, 60, 1}, {66, 60, 0}};
        for (int[] t : tries) {
            HollowShire x = warnedOf(t[0], t[0] + 1);
            DUE.is("fell in " + t[0] + ", within " + t[1], x.warned(t[1], 0), t[2]);
            DUE.is("missed", x.warned(t[1], 1), 1 - t[2]);
        }
        HollowShire first = new HollowShire();
        first.warn(0);
        first.ground(0, 0, 200);
        first.run(1);
        DUE.is("told and fell in month 0", first.warned(1, 0), 1);
        HollowShire x = new HollowShire();
        x.image();
        x.run(1);
        x.warn(9);
        x.back();
        x.ground(9, 0, 200);
        x.run(2);
        DUE.is("fell ahead of its month", x.warned(60, 0), 0);
    }

    private static void warningsOld() {
        DUE.says(FOUR, "OLD ones: not TRUE, told more than m MONTHS ago.");
        HollowShire x = new HollowShire();
        x.warn(9);
        DUE.is("now", x.warned(1, 2), 0);
        x.run(1);
        DUE.is("1 ago, by 1", x.warned(1, 2), 0);
        x.run(1);
        DUE.is("2 ago, by 1", x.warned(1, 2), 1);
        DUE.is("2 ago, by 2", x.warned(2, 2), 0);
        x.run(58);
        DUE.is("60 ago, by 60", x.warned(60, 2), 0);
        DUE.is("60 ago, by 59", x.warned(59, 2), 1);
        x.run(1);
        DUE.is("61 ago, by 60", x.warned(60, 2), 1);
        for (int i = 0; i < 3; i++) x.warn(10 + i);
        x.run(2);
        DUE.is("three of 2 ago, by 1, and the first", x.warned(1, 2), 4);
        DUE.is("the first alone, by 2", x.warned(2, 2), 1);
        HollowShire fell = warnedOf(7, 20);
        DUE.is("came true within 2", fell.warned(2, 2), 0);
        DUE.is("not within 1", fell.warned(1, 2), 1);
    }

    private static void cellsMissed() {
        DUE.says(FOUR, "MISSED: CELLS that FELL of which no WARNING came TRUE.");
        HollowShire x = new HollowShire();
        DUE.is("none fell", x.warned(1, 1), 0);
        x.warn(0);
        x.warn(63);
        x.run(2);
        x.warn(63);
        x.warn(62);
        for (int c : new int[] {0, 61, 63}) x.ground(c, 0, 200);
        x.run(1);
        DUE.is("by 1: 0 and 61", x.warned(1, 1), 2);
        DUE.is("by 2: 61", x.warned(2, 1), 1);
        DUE.is("true by 1: one of 63's", x.warned(1, 0), 1);
        DUE.is("true by 2: three", x.warned(2, 0), 3);
        HollowShire all = new HollowShire();
        for (int c = 0; c < 64; c++) all.ground(c, 0, 200);
        all.run(1);
        DUE.is("all of 64", all.warned(60, 1), 64);
    }

    private static void promise22() {
        DUE.says("Promise 22", "LOOKS: their WORTH (a CELL told twice: paid for twice, worth once).");
        HollowShire x = new HollowShire();
        DUE.is("the dearer one ahead", looks(x, 3, 9, 3, 9, 2), 170);
        DUE.is("least as bits", x.lookTold(), 1);
        DUE.is("for the cheaper one's price", looks(x, 2, 9, 3, 9, 2), 170);
        DUE.is("the cheaper one", x.lookTold(), 2);
        DUE.is("with another cell", looks(x, 15, 9, 5, 9, 5, 10, 5), 340);
        DUE.is("not all three", x.lookTold(), 5);
        DUE.is("two prices for two cells", looks(x, 9, 9, 5, 9, 5, 10, 5), 170);
        DUE.is("with another cell between", looks(x, 15, 9, 5, 10, 5, 9, 5), 340);
        DUE.is("not all three", x.lookTold(), 3);
        HollowShire zero = new HollowShire();
        DUE.is("cell 0 told twice", looks(zero, 9, 0, 1, 0, 1), 170);
        DUE.is("cell 63 told twice", looks(zero, 9, 63, 1, 63, 1), 170);
    }

    private static void promise22Refusals() {
        DUE.says("Promise 22", "NONE: SHEET; -11; BAD: its size, coin (0 .. 1000000), known, a number that is not as told.");
        new Edges(DUE, Shires.MIXED, "looks", (s, a) -> s.looks(a[0], a[1], a[2]))
            .arg(1, 0, 3, -1).arg(100, 0, 1000000, -2).arg(2, 0, 3, -2).order(-1, -2).check();
        DUE.is("coin 0", Shires.MIXED.get().looks(1, 0, 3), 0);
        // Cell 9: 30 of doubt, worth nothing. Cell 10: 176, nobody is there.
        DUE.is("coin 1000000", Shires.MIXED.get().looks(1, 1000000, 3), 146);
        Twins.refused(DUE, "missing", Shires.MIXED, s -> s.looks(2, 5, 3), -11);
        Twins.refused(DUE, "missing, and coin -1", Shires.MIXED, s -> s.looks(2, -1, 3), -11);
        int[][] bad = {{9}, {9, 1, 10}, new int[17], new int[18], new int[40], {64, 1}, {-1, 1}, {9, 0}, {9, 10000}, {9, 1, 10, 0},
            {9, 1, 10, 10000}, {9, 1, 64, 1}, {9, Integer.MAX_VALUE}, {9, Integer.MIN_VALUE}, {Integer.MIN_VALUE, 1}, {73, 1}};
        for (int[] numbers : bad) {
            Supplier<HollowShire> shire = Shires.withSheet(2, numbers);
            Twins.refused(DUE, "looks " + Arrays.toString(numbers), shire, s -> s.looks(2, 100, 3), -2);
        }
        DUE.is("a price of 9999", Shires.withSheet(1, 40, 9999).get().looks(2, 9999, 3), 170 * 2);
    }

    private static void promise23() {
        DUE.says("Promise 23", "The set of LOOKS that were found last, as bits of their places (0 at first).");
        HollowShire x = new HollowShire();
        DUE.is("at first", x.lookTold(), 0);
        for (int i = 0; i < 8; i++) {
            int[] row = new int[16];
            for (int j = 0; j < 8; j++) {
                row[2 * j] = j;
                row[2 * j + 1] = j == i ? 1 : 2;
            }
            DUE.is("one of eight", looks(x, 1, row), 170);
            DUE.is("its place", x.lookTold(), 1 << i);
        }
        DUE.is("refused", x.looks(3, 1, 0), -11);
        DUE.is("the last one stays", x.lookTold(), 128);
        looks(x, 0, 9, 1);
        DUE.is("none was found", x.lookTold(), 0);
    }

    private static void often(HollowShire x, int rock, long above, long below) {
        DUE.is("above, rock " + rock, x.often(rock, 0), above);
        DUE.is("below, rock " + rock, x.often(rock, 1), below);
    }

    private static void promise24() {
        DUE.says("Promise 24", "How many CELLS of a ROCK FELL, by how many MONTHS were counted for it: part 0 above, 1 below the line, "
            + "in lowest terms (0 by 1; also if there were none).");
        HollowShire x = new HollowShire();
        for (int rock = 0; rock < 4; rock++) often(x, rock, 0, 1);
        x.run(7);
        often(x, 0, 0, 1);
        often(x, 3, 0, 1);
        for (int c = 0; c < 6; c++) x.ground(c, 3, c < 4 ? 61 : 0);
        x.run(1);
        often(x, 3, 2, 3);
        x.run(1);
        often(x, 3, 1, 2);
        x.run(1);
        often(x, 3, 2, 5);
        HollowShire all = new HollowShire();
        for (int c = 0; c < 64; c++) all.ground(c, 1, 91);
        all.run(1);
        often(all, 1, 1, 1);
        all.run(1);
        often(all, 1, 1, 1);
        often(all, 0, 0, 1);
        HollowShire late = new HollowShire();
        late.ground(0, 3, 0);
        Due.run(late, 1199);
        late.ground(0, 3, 61);
        late.run(1);
        often(late, 3, 1, 1200);
        often(late, 0, 0, 1);
        HollowShire clay = new HollowShire();
        Due.run(clay, 1199);
        clay.ground(63, 0, 121);
        clay.run(1);
        often(clay, 0, 1, 64 * 1200);
    }

    private static void promise24Refusals() {
        DUE.says("Promise 24", "NO: ROCK, part.");
        new Edges(DUE, Shires.MIXED, "often", (s, a) -> s.often(a[0], a[1])).arg(1, 0, 3, Due.NO).arg(1, 0, 1, Due.NO).order(Due.NO).check();
        Twins.unchanged(DUE, "asking", Shires.MIXED, s -> s.often(0, 1));
    }

    private static void promise25() {
        DUE.says("Promise 25", "A WARNING: its number. NONE: CELL; STATE: it FELL; FULL.");
        HollowShire x = new HollowShire();
        DUE.is("the first", x.warn(63), 0);
        DUE.is("the same again", x.warn(63), 1);
        DUE.is("cell 0", x.warn(0), 2);
        new Edges(DUE, Shires.MIXED, "warn", (s, a) -> s.warn(a[0])).arg(41, 0, 63, -1).check();
        Twins.refused(DUE, "it fell", Shires.MIXED, s -> s.warn(30), -3);
        Twins.refused(DUE, "full", Shires.FULL, s -> s.warn(0), -4);
        Twins.refused(DUE, "full, and it fell", Shires.FULL, s -> s.warn(7), -3);
        Twins.refused(DUE, "full, and no cell", Shires.FULL, s -> s.warn(64), -1);
    }

    private static void promise26() {
        DUE.says("Promise 26", "Within so many MONTHS (1 .. 60): how many WARNINGS 0 came TRUE, 2 are OLD; 1 how many CELLS are MISSED. BAD.");
        HollowShire x = warnedOf(6, 8);
        x.warn(10);
        x.ground(11, 0, 200);
        x.run(3);
        // Month 11: cell 9 fell in 6 and cell 11 in 8; the warnings are of 5 and of 8.
        long[][] told = {{1, 1, 1}, {1, 1, 1}, {1, 1, 0}};
        for (int m = 1; m <= 3; m++) for (int w = 0; w < 3; w++) DUE.is("within " + m + ", what " + w, x.warned(m, w), told[m - 1][w]);
        new Edges(DUE, Shires.MIXED, "warned", (s, a) -> s.warned(a[0], a[1])).arg(5, 1, 60, -2).arg(1, 0, 2, -2).order(-2).check();
        new Edges(DUE, Shires.FRESH, "warned", (s, a) -> s.warned(a[0], a[1])).arg(5, 1, 60, -2).arg(1, 0, 2, -2).order(-2).check();
        Twins.unchanged(DUE, "asking", Shires.MIXED, s -> s.warned(2, 2));
    }
}
