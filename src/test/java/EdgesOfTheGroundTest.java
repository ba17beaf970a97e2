/** Each sentence of Terms 1 and of promises 1 to 8, at its edges. */
public final class EdgesOfTheGroundTest {
    private static final Due DUE = new Due();
    private static final String ONE = "Terms 1";

    public static void main(String[] args) {
        cells();
        sides();
        nearCells();
        months();
        rocksAndHollows();
        water();
        fellIn();
        rocks();
        rain();
        houses();
        pumps();
        rainFalls();
        pumpsPump();
        waterFlows();
        waterFlowsAtOnce();
        hollowsGrow();
        hollowsGrowByEach();
        roofsFall();
        monthsAreCounted();
        housesGo();
        promise1();
        promise2();
        promise3();
        promise4();
        promise5();
        promise6();
        promise7();
        promise8();
        DUE.end("EdgesOfTheGroundTest");
    }

    private static void cells() {
        DUE.says(ONE, "CELLS 0 .. 63");
        HollowShire x = new HollowShire();
        DUE.is("the first", x.cellTold(0, 0), 0);
        DUE.is("the last", x.cellTold(63, 0), 0);
        DUE.is("one below", x.cellTold(-1, 0), -5);
        DUE.is("one beyond", x.cellTold(64, 0), -5);
    }

    /** The document's list of sides; below 0 there is no cell on that side. */
    private static int[] beside(int c) {
        int x = c % 8, y = c / 8;
        return new int[] {y < 7 ? c + 8 : -1, x < 7 ? c + 1 : -1, y > 0 ? c - 8 : -1, x > 0 ? c - 1 : -1};
    }

    private static boolean isBeside(int c, int d) {
        for (int b : beside(c)) if (b == d) return true;
        return false;
    }

    private static void sides() {
        DUE.says(ONE, "c is x = c % 8, y = c / 8; beside one: side 0 y + 1, 1 x + 1, 2 y - 1, 3 x - 1");
        for (int c = 0; c < 64; c++) {
            HollowShire x = new HollowShire();
            x.rain(50);
            x.pump(c);
            x.pumping(0, 50);
            x.run(1);
            // From each side an eighth of 50 flows to the cell that was pumped dry.
            int sides = 0;
            for (int d = 0; d < 64; d++) {
                if (d != c) DUE.is("pumped in " + c + ", water in " + d, x.cellTold(d, 1), isBeside(c, d) ? 44 : 50);
                if (isBeside(c, d)) sides++;
            }
            DUE.is("water in " + c, x.cellTold(c, 1), 6 * sides);
        }
        HollowShire corner = new HollowShire();
        corner.rain(50);
        corner.pump(0);
        corner.pump(63);
        for (int p = 0; p < 2; p++) corner.pumping(p, 50);
        corner.run(1);
        DUE.is("two sides of cell 0", corner.cellTold(0, 1), 12);
        DUE.is("two sides of cell 63", corner.cellTold(63, 1), 12);
    }

    private static void nearCells() {
        DUE.says(ONE, "NEAR one: itself and those beside.");
        for (int c = 0; c < 64; c++) {
            HollowShire x = new HollowShire();
            x.pump(c);
            x.pumping(0, 1);
            for (int d = 0; d < 64; d++) DUE.is("pump in " + c + ", owe in " + d, x.law(d, 2, 0), c == d || isBeside(c, d) ? 3 : 0);
        }
        HollowShire x = new HollowShire();
        x.lost(27, 10);
        int[] near = {27, 35, 28, 19, 26}, far = {18, 20, 34, 36, 43, 29, 11, 25};
        for (int c : near) { Due.fill(x, 0, 2, c); DUE.is("lost at 27, fit of " + c, x.fit(0, 0), 1); }
        for (int c : far) { Due.fill(x, 0, 2, c); DUE.is("lost at 27, fit of " + c, x.fit(0, 0), 0); }
    }

    private static void months() {
        DUE.says(ONE, "MONTH is 0 at first, 1200 at most.");
        HollowShire x = new HollowShire();
        DUE.is("at first", x.count(0), 0);
        Due.run(x, 1199);
        DUE.is("one ahead of the last", x.count(0), 1199);
        DUE.is("two are too many", x.run(2), -4);
        DUE.is("to the last", x.run(1), 1200);
        DUE.is("beyond", x.run(1), -4);
        DUE.is("it stays", x.count(0), 1200);
    }

    private static void rocksAndHollows() {
        DUE.says(ONE, "Each CELL has a ROCK (0 at first), a HOLLOW (0 .. 200; 0 at first)");
        HollowShire x = new HollowShire();
        for (int c = 0; c < 64; c++) {
            DUE.is("rock of " + c, x.cellTold(c, 0), 0);
            DUE.is("hollow of " + c, x.ground(c, c % 4, 200), 0);
            DUE.is("200", x.ground(c, c % 4, 0), 200);
            DUE.is("0", x.ground(c, c % 4, 0), 0);
            DUE.is("its rock", x.cellTold(c, 0), c % 4);
        }
        DUE.is("201", x.ground(0, 0, 201), -2);
        DUE.is("-1", x.ground(0, 0, -1), -2);
    }

    private static HollowShire wet(int months) {
        HollowShire x = new HollowShire();
        x.rain(50);
        Due.run(x, months);
        return x;
    }

    private static void water() {
        DUE.says(ONE, "WATER (0 .. 9999; 0 at first)");
        HollowShire x = new HollowShire();
        for (int c = 0; c < 64; c++) DUE.is("water of " + c, x.cellTold(c, 1), 0);
        x.pump(0);
        x.pumping(0, 50);
        x.run(1);
        DUE.is("0 at least", x.cellTold(0, 1), 0);
        x = wet(200);
        DUE.is("9999 at most", x.cellTold(63, 1), 9999);
    }

    private static void fellIn() {
        DUE.says(ONE, "and the MONTH in which it FELL (-1: it didn't, at first).");
        HollowShire x = new HollowShire();
        for (int c = 0; c < 64; c++) DUE.is("fell of " + c, x.cellTold(c, 2), -1);
        x.ground(63, 0, 121);
        x.run(1);
        DUE.is("in month 0", x.cellTold(63, 2), 0);
        DUE.is("it didn't", x.cellTold(62, 2), -1);
        Due.run(x, 1198);
        x.ground(0, 0, 121);
        x.run(1);
        DUE.is("in the last month that can go by", x.cellTold(0, 2), 1199);
    }

    /** The hollow of 100, after so much was pumped there in a month, with no more water to flow. */
    private static int grown(int rock, int pumped) {
        HollowShire x = new HollowShire();
        x.ground(27, rock, 10);
        x.rain(pumped);
        x.pump(27);
        x.pumping(0, pumped);
        x.run(1);
        return x.ground(27, rock, 0) - 10;
    }

    private static void rocks() {
        DUE.says(ONE, "ROCKS: how much water solves, what a ROOF bears: "
            + "0 clay 0, 120; 1 gypsum 2, 90; 2 salt 5, 70; 3 an old mine 1, 60.");
        // 7 pumped: no side has an eighth more, so this alone went by.
        int[] bySeven = {0, 1, 3, 0};
        int[] bears = {120, 90, 70, 60};
        for (int rock = 0; rock < 4; rock++) {
            DUE.is("7 in rock " + rock, grown(rock, 7), bySeven[rock]);
            HollowShire x = new HollowShire();
            x.ground(20, rock, bears[rock]);
            x.ground(40, rock, bears[rock] + 1);
            x.run(1);
            DUE.is("rock " + rock + " bears " + bears[rock], x.cellTold(20, 2), -1);
            DUE.is("rock " + rock + " bears no more", x.cellTold(40, 2), 0);
        }
        DUE.is("clay is never solved", grown(0, 50), 0);
    }

    private static void rain() {
        DUE.says(ONE, "RAIN (0 .. 50; 0 at first).");
        HollowShire x = new HollowShire();
        DUE.is("at first", x.count(11), 0);
        x.run(1);
        DUE.is("no rain", x.cellTold(9, 1), 0);
        DUE.is("51", x.rain(51), -2);
        DUE.is("-1", x.rain(-1), -2);
        DUE.is("50", x.rain(50), 0);
        x.run(1);
        DUE.is("50 fell", x.cellTold(9, 1), 50);
        DUE.is("0", x.rain(0), 50);
        x.run(1);
        DUE.is("none fell", x.cellTold(9, 1), 50);
    }

    private static void houses() {
        DUE.says(ONE, "HOUSES are numbered from 0 on, 14 at most: a CELL, a WORTH, PEOPLE; MOVED or not (at first); "
            + "the MONTH in which one is GONE (-1: it isn't).");
        HollowShire x = new HollowShire();
        DUE.is("none at first", x.houseTold(0, 0), -5);
        for (int h = 0; h < 14; h++) {
            DUE.is("number", x.house(5 + h, 100 + h, h), h);
            long[] told = {5 + h, 100 + h, h, -1, 0};
            for (int w = 0; w < 5; w++) DUE.is("house " + h + " what " + w, x.houseTold(h, w), told[w]);
        }
        DUE.is("the fifteenth", x.house(0, 1, 1), -4);
        DUE.is("there are 14", x.count(2), 14);
        DUE.is("the last one is moved", x.move(13), 13);
        DUE.is("moved", x.houseTold(13, 4), 1);
        x.ground(5, 0, 200);
        x.run(1);
        DUE.is("the first one is gone in month 0", x.houseTold(0, 3), 0);
        DUE.is("the second one isn't", x.houseTold(1, 3), -1);
    }

    private static void pumps() {
        DUE.says(ONE, "PUMPS are numbered from 0 on, 6 at most: in a CELL, PUMPING so much (0 .. 50; 0 at first).");
        HollowShire x = new HollowShire();
        DUE.is("none at first", x.pumping(0, 1), -1);
        for (int p = 0; p < 6; p++) {
            DUE.is("number", x.pump(10 * p), p);
            DUE.is("0 at first", x.pumping(p, 50), 0);
            DUE.is("50", x.pumping(p, 0), 50);
            DUE.is("0", x.pumping(p, p), 0);
        }
        DUE.is("the seventh", x.pump(1), -4);
        DUE.is("there are 6", x.count(3), 6);
        DUE.is("51", x.pumping(5, 51), -2);
        DUE.is("-1", x.pumping(5, -1), -2);
        DUE.is("nothing was changed", x.pumping(5, 5), 5);
        // Each pump is in its own cell: 0, 10, 20, 30, 40, 50.
        x.rain(7);
        x.run(1);
        for (int p = 0; p < 6; p++) DUE.is("water by pump " + p, x.cellTold(10 * p, 1), 7 - p);
    }

    private static void rainFalls() {
        DUE.says(ONE, "A MONTH goes by, in this order: (1) each CELL has RAIN more WATER, 9999 at most.");
        int[][] tries = {{48, 9998}, {49, 9999}, {50, 9999}};
        for (int[] t : tries) {
            HollowShire x = wet(199);
            DUE.is("ahead", x.cellTold(0, 1), 9950);
            x.rain(t[0]);
            x.run(1);
            for (int c = 0; c < 64; c++) DUE.is("rain " + t[0] + ", cell " + c, x.cellTold(c, 1), t[1]);
        }
        HollowShire x = wet(200);
        x.pump(0);
        x.pumping(0, 50);
        x.run(1);
        // 9999 and no more ahead of the pump: 9949 are left, and 6 flow in from two sides.
        DUE.is("at most 9999 ahead of (2)", x.cellTold(0, 1), 9961);
        DUE.is("beside it", x.cellTold(1, 1), 9993);
    }

    /** Salt in cell 27 with a hollow of 10, which the rain of a month and these pumps make greater. */
    private static HollowShire pumped(int rain, int... much) {
        HollowShire x = new HollowShire();
        x.ground(27, 2, 10);
        x.rain(rain);
        for (int p = 0; p < much.length; p++) {
            x.pump(27);
            x.pumping(p, much[p]);
        }
        x.run(1);
        return x;
    }

    private static void pumpsPump() {
        DUE.says(ONE, "(2) PUMPS, by numbers: what it PUMPS, as much as there is at most, leaves the WATER of its CELL, "
            + "and went by there.");
        DUE.is("7 of 7", pumped(7, 7).cellTold(27, 1), 0);
        DUE.is("7 of 8", pumped(8, 7).cellTold(27, 1), 1);
        DUE.is("8 of 7", pumped(7, 8).cellTold(27, 1), 0);
        DUE.is("7 of 7 went by", pumped(7, 7).ground(27, 2, 0), 13);
        DUE.is("8 of 7: 7 went by", pumped(7, 8).ground(27, 2, 0), 13);
        DUE.is("50 of 1 went by", pumped(1, 50).ground(27, 2, 0), 10);
        DUE.is("nothing is there", pumped(0, 50).ground(27, 2, 0), 10);
        DUE.is("0 is pumped", pumped(50, 0).ground(27, 2, 0), 10);
        DUE.is("0 is pumped, water stays", pumped(50, 0).cellTold(27, 1), 50);
        DUE.is("1, then 6 of 50, then none", pumped(7, 1, 50, 50).ground(27, 2, 0), 13);
        DUE.is("3, 3, then 1 of 3", pumped(7, 3, 3, 3).ground(27, 2, 0), 12);
        DUE.is("by numbers: 33 and 17 of 50, and four times 6", pumped(50, 33, 40).ground(27, 2, 0), 10 + 16 + 8 + 12);
        DUE.is("by numbers: 40 and 10 of 50, and four times 6", pumped(50, 40, 33).ground(27, 2, 0), 10 + 20 + 5 + 12);
    }

    private static void waterFlows() {
        DUE.says(ONE, "between each CELL and the one on its side 0, and on its side 1: an eighth (cut) of what its WATER is more "
            + "than that one's goes there (if it is less, likewise back); so much went by in both.");
        int[][] tries = {{7, 50, 43}, {8, 49, 46}, {15, 49, 39}, {16, 48, 42}};
        for (int[] t : tries) {
            HollowShire x = pumped(50, t[0]);
            for (int d : beside(27)) DUE.is(t[0] + " less in 27, water in " + d, x.cellTold(d, 1), t[1]);
            DUE.is(t[0] + " less in 27", x.cellTold(27, 1), t[2]);
        }
        // 16 less in cell 27: 2 go there over each side, which salt shows in both: 8 by the pump, four times 1; 1 beside.
        HollowShire x = new HollowShire();
        for (int c = 0; c < 64; c++) x.ground(c, 2, 10);
        x.rain(50);
        x.pump(27);
        x.pumping(0, 16);
        x.run(1);
        for (int c = 0; c < 64; c++) DUE.is("hollow of " + c, x.ground(c, 2, 0), c == 27 ? 22 : isBeside(27, c) ? 11 : 10);
    }

    private static void waterFlowsAtOnce() {
        DUE.says(ONE, "(3) All at once:");
        HollowShire x = pumped(50, 50);
        x.rain(0);
        x.pumping(0, 0);
        x.run(1);
        // 24 in cell 27, 44 beside it, 50 elsewhere: 2 flow in over each side, whatever flowed over the others.
        DUE.is("24 and four times 2", x.cellTold(27, 1), 32);
        for (int d : beside(27)) DUE.is("44 less 2 in " + d, x.cellTold(d, 1), 42);
        DUE.is("6 are no eighth of 8", x.cellTold(18, 1), 50);
        x.run(1);
        // 32 and 42: 1; 42 and 50: 1 from three sides.
        DUE.is("32 and four times 1", x.cellTold(27, 1), 36);
        for (int d : beside(27)) DUE.is("42 less 1, and three times 1, in " + d, x.cellTold(d, 1), 44);
        DUE.is("aslant two gave 1", x.cellTold(18, 1), 48);
        DUE.is("straight on one gave 1", x.cellTold(29, 1), 49);
    }

    private static void hollowsGrow() {
        DUE.says(ONE, "the HOLLOW of a CELL that did not fall is more by that times what its ROCK solves, by 10 (cut), 200 at most.");
        // Rain and pumps are the same, so 7 at most went by without flows.
        int[][] salt = {{1, 0}, {2, 1}, {3, 1}, {4, 2}, {5, 2}, {6, 3}, {7, 3}};
        for (int[] t : salt) DUE.is("salt by " + t[0], grown(2, t[0]), t[1]);
        int[][] gypsum = {{1, 0}, {4, 0}, {5, 1}, {7, 1}};
        for (int[] t : gypsum) DUE.is("gypsum by " + t[0], grown(1, t[0]), t[1]);
        // With 9 and 10, flows of 1 come from each side, which solve nothing in a mine.
        int[][] mine = {{9, 0}, {10, 1}, {19, 1}, {20, 2}};
        for (int[] t : mine) DUE.is("an old mine by " + t[0], grown(3, t[0]), t[1]);
        int[][] most = {{198, 2, 199}, {199, 1, 199}, {199, 2, 200}, {199, 4, 200}, {200, 1, 200}, {200, 7, 200}};
        for (int[] t : most) {
            HollowShire x = new HollowShire();
            x.ground(27, 2, t[0]);
            x.rain(t[1]);
            x.pump(27);
            x.pumping(0, t[1]);
            x.run(1);
            DUE.is(t[0] + " of salt by " + t[1], x.cellTold(27, 3), t[2]);
        }
        HollowShire x = new HollowShire();
        x.ground(27, 2, 71);
        x.run(1);
        x.rain(7);
        x.pump(27);
        x.pumping(0, 7);
        x.run(1);
        DUE.is("it fell, and is no more", x.cellTold(27, 3), 71);
        DUE.is("its water leaves all the same", x.cellTold(27, 1), 0);
    }

    private static void hollowsGrowByEach() {
        DUE.says(ONE, "(4) What went by (of (2), of (3), each by itself, in this order, CELLS by numbers, side 0 ahead of 1):");
        DUE.is("1 and 1 solve nothing", pumped(7, 1, 1).ground(27, 2, 0), 10);
        DUE.is("2 solve 1", pumped(7, 2).ground(27, 2, 0), 11);
        DUE.is("3 and 3 are 1 and 1", pumped(7, 3, 3).ground(27, 2, 0), 12);
        // 8 pumped: 4; 1 from each of four sides: nothing each, though 4 would solve 2.
        DUE.is("8 pumped, 1 four times", pumped(50, 8).ground(27, 2, 0), 14);
        HollowShire x = new HollowShire();
        x.ground(27, 3, 10);
        x.rain(50);
        x.pump(27);
        x.pumping(0, 50);
        x.run(1);
        DUE.is("50 pumped, 6 four times in a mine", x.ground(27, 3, 0), 15);
        HollowShire most = pumped(50, 50);
        most.ground(27, 2, 190);
        // 195 by the pump's 10 and 200 by flows, ahead of (5).
        most.run(1);
        DUE.is("grown ahead of (5)", most.cellTold(27, 3), 200);
        DUE.is("fell in that month", most.cellTold(27, 2), 1);
    }

    private static void roofsFall() {
        DUE.says(ONE, "if its HOLLOW is above what its ROOF bears and a twentieth (cut) of its WATER, it FELL now: counted for its ROCK;");
        int[][] tries = {{19, 120, -1}, {19, 121, 0}, {20, 121, -1}, {20, 122, 0}, {39, 121, -1}, {39, 122, 0}, {40, 122, -1}, {40, 123, 0}};
        for (int[] t : tries) {
            HollowShire x = new HollowShire();
            x.rain(t[0]);
            x.ground(5, 0, t[1]);
            x.run(1);
            DUE.is(t[0] + " of water, hollow " + t[1], x.cellTold(5, 2), t[2]);
            DUE.is("counted for its rock", x.often(0, 0), t[2] + 1);
            DUE.is("and for no other", x.often(1, 0), 0);
        }
        HollowShire x = new HollowShire();
        x.rain(20);
        x.ground(5, 0, 121);
        x.pump(5);
        x.pumping(0, 1);
        x.run(1);
        DUE.is("the water behind the pump counts: 19", x.cellTold(5, 2), 0);
        HollowShire flows = new HollowShire();
        flows.rain(27);
        flows.ground(5, 0, 121);
        flows.pump(5);
        flows.pumping(0, 8);
        flows.run(1);
        // 19 behind the pump, and 1 from each of three sides: 22.
        DUE.is("the water behind the flows counts", flows.cellTold(5, 2), -1);
        HollowShire late = new HollowShire();
        late.rain(2);
        late.ground(27, 2, 69);
        late.pump(27);
        late.pumping(0, 2);
        late.run(1);
        DUE.is("70 is not above 70", late.cellTold(27, 2), -1);
        late.run(1);
        DUE.is("71 is, in the month in which it is so", late.cellTold(27, 2), 1);
        late.run(1);
        DUE.is("once", late.count(4), 1);
    }

    private static void monthsAreCounted() {
        DUE.says(ONE, "(5) CELLS that did not fall, by numbers: a MONTH more is counted for its ROCK;");
        HollowShire x = new HollowShire();
        x.ground(0, 3, 61);
        x.ground(63, 3, 0);
        x.run(1);
        DUE.is("also the month in which it fell", x.often(3, 1), 2);
        x.run(1);
        DUE.is("none of a cell that fell", x.often(3, 1), 3);
        x.run(1);
        DUE.is("of the other one", x.often(3, 1), 4);
        DUE.is("none of the other rocks' cells", x.often(2, 1), 1);
    }

    private static void housesGo() {
        DUE.says(ONE, "HOUSES there that aren't GONE are GONE now; HARM: of each its WORTH, and, if it is not MOVED, "
            + "1000 times its PEOPLE. Then MONTH is 1 more.");
        int[][] tries = {{1, 0, 0, 1}, {1, 1, 0, 1001}, {99999, 99, 0, 198999}, {99999, 99, 1, 99999}, {1, 99, 1, 1}};
        for (int[] t : tries) {
            HollowShire x = new HollowShire();
            x.house(63, t[0], t[1]);
            x.house(62, 7, 7);
            if (t[2] == 1) x.move(0);
            x.ground(63, 0, 200);
            x.run(1);
            DUE.is("harm of " + t[0] + ", " + t[1] + ", moved " + t[2], x.count(5), t[3]);
            DUE.is("gone in month 0", x.houseTold(0, 3), 0);
            DUE.is("the month then", x.count(0), 1);
            DUE.is("the house beside isn't", x.houseTold(1, 3), -1);
            x.run(2);
            DUE.is("harm comes once", x.count(5), t[3]);
            DUE.is("it was gone then", x.houseTold(0, 3), 0);
        }
        HollowShire x = new HollowShire();
        for (int h = 0; h < 14; h++) x.house(9, 99999, 99);
        x.ground(9, 0, 200);
        x.run(1);
        DUE.is("14 houses", x.count(5), 14 * 198999);
        DUE.is("the last of them", x.houseTold(13, 3), 0);
    }

    private static void promise1() {
        DUE.says("Promise 1", "All clay, no HOLLOWS; MONTH 0.");
        HollowShire x = new HollowShire();
        DUE.is("month", x.count(0), 0);
        for (int c = 0; c < 64; c++) {
            DUE.is("clay in " + c, x.cellTold(c, 0), 0);
            DUE.is("hollow of " + c, x.ground(c, 0, 0), 0);
        }
        HollowShire other = new HollowShire();
        other.ground(1, 2, 3);
        DUE.is("an object of its own", new HollowShire().ground(1, 2, 3), 0);
    }

    private static void promise2() {
        DUE.says("Promise 2", "ROCK and HOLLOW of a CELL: what its HOLLOW was.");
        HollowShire x = new HollowShire();
        DUE.is("at first", x.ground(9, 3, 200), 0);
        DUE.is("as told", x.ground(9, 2, 0), 200);
        DUE.is("the rock as told", x.cellTold(9, 0), 2);
        DUE.is("0 as told", x.ground(9, 2, 1), 0);
        x.rain(6);
        x.pump(9);
        x.pumping(0, 6);
        x.run(1);
        DUE.is("as it grew", x.ground(9, 2, 5), 4);
        DUE.says("Promise 2", "NONE; BAD; STATE: it FELL.");
        new Edges(DUE, Shires.MIXED, "ground", (s, a) -> s.ground(a[0], a[1], a[2]))
            .arg(41, 0, 63, -1).arg(1, 0, 3, -2).arg(30, 0, 200, -2).order(-1, -2).check();
        Twins.refused(DUE, "it fell", Shires.MIXED, s -> s.ground(30, 1, 5), -3);
        Twins.refused(DUE, "it fell, and no such rock", Shires.MIXED, s -> s.ground(30, 4, 5), -2);
        DUE.is("its neighbour did not", Shires.MIXED.get().ground(31, 1, 5), 0);
    }

    private static void promise3() {
        DUE.says("Promise 3", "A HOUSE: its number.");
        HollowShire x = new HollowShire();
        DUE.is("the first", x.house(63, 99999, 99), 0);
        DUE.is("in the same cell", x.house(63, 1, 0), 1);
        long[] told = {63, 99999, 99, -1, 0};
        for (int w = 0; w < 5; w++) DUE.is("what " + w, x.houseTold(0, w), told[w]);
        DUE.says("Promise 3", "NONE: CELL; BAD: WORTH (1 .. 99999), PEOPLE (0 .. 99); STATE: the CELL FELL; FULL.");
        new Edges(DUE, Shires.MIXED, "house", (s, a) -> s.house(a[0], a[1], a[2]))
            .arg(41, 0, 63, -1).arg(5, 1, 99999, -2).arg(5, 0, 99, -2).order(-1, -2).check();
        Twins.refused(DUE, "it fell", Shires.MIXED, s -> s.house(30, 1, 0), -3);
        Twins.refused(DUE, "it fell, and no worth", Shires.MIXED, s -> s.house(30, 0, 0), -2);
        Twins.refused(DUE, "full", Shires.FULL, s -> s.house(0, 1, 0), -4);
        Twins.refused(DUE, "full, and it fell", Shires.FULL, s -> s.house(7, 1, 0), -3);
        Twins.refused(DUE, "full, and people 100", Shires.FULL, s -> s.house(7, 1, 100), -2);
        Twins.refused(DUE, "full, and no cell", Shires.FULL, s -> s.house(64, 1, 100), -1);
    }

    private static void promise4() {
        DUE.says("Promise 4", "A PUMP: its number.");
        HollowShire x = Due.withFallen(7);
        DUE.is("the first", x.pump(7), 0);
        DUE.is("in the same cell", x.pump(7), 1);
        DUE.says("Promise 4", "NONE; FULL.");
        new Edges(DUE, Shires.MIXED, "pump", (s, a) -> s.pump(a[0])).arg(41, 0, 63, -1).check();
        Twins.refused(DUE, "full", Shires.FULL, s -> s.pump(0), -4);
        Twins.refused(DUE, "full, and no cell", Shires.FULL, s -> s.pump(64), -1);
    }

    private static void promise5() {
        DUE.says("Promise 5", "PUMPING: what it was.");
        HollowShire x = new HollowShire();
        x.pump(3);
        x.pump(4);
        DUE.is("at first", x.pumping(1, 50), 0);
        DUE.is("the same again", x.pumping(1, 50), 50);
        DUE.is("no more", x.pumping(1, 0), 50);
        DUE.is("nothing", x.pumping(1, 1), 0);
        DUE.is("the other one", x.pumping(0, 1), 0);
        DUE.says("Promise 5", "NONE; BAD.");
        new Edges(DUE, Shires.MIXED, "pumping", (s, a) -> s.pumping(a[0], a[1]))
            .arg(1, 0, 1, -1).arg(5, 0, 50, -2).order(-1, -2).check();
        new Edges(DUE, Shires.FULL, "pumping", (s, a) -> s.pumping(a[0], a[1])).arg(1, 0, 5, -1).arg(5, 0, 50, -2).order(-1, -2).check();
        Twins.refused(DUE, "there are no pumps", Shires.FRESH, s -> s.pumping(0, 1), -1);
    }

    private static void promise6() {
        DUE.says("Promise 6", "RAIN: what it was. BAD.");
        HollowShire x = new HollowShire();
        DUE.is("at first", x.rain(50), 0);
        DUE.is("then", x.rain(50), 50);
        DUE.is("the same again", x.rain(0), 50);
        DUE.is("nothing", x.rain(1), 0);
        new Edges(DUE, Shires.MIXED, "rain", (s, a) -> s.rain(a[0])).arg(5, 0, 50, -2).check();
    }

    private static void promise7() {
        DUE.says("Promise 7", "A HOUSE is MOVED: its PEOPLE.");
        HollowShire x = new HollowShire();
        x.house(9, 1, 0);
        x.house(9, 1, 99);
        DUE.is("nobody", x.move(0), 0);
        DUE.is("99", x.move(1), 99);
        for (int h = 0; h < 2; h++) DUE.is("moved", x.houseTold(h, 4), 1);
        DUE.is("nobody is there", x.cellTold(9, 4), 0);
        DUE.is("its people stay its people", x.houseTold(1, 2), 99);
        DUE.says("Promise 7", "NONE; STATE: it is GONE, or MOVED.");
        new Edges(DUE, Shires.MIXED, "move", (s, a) -> s.move(a[0])).arg(0, 0, 3, -1).check();
        Twins.refused(DUE, "it is gone", Shires.MIXED, s -> s.move(1), -3);
        Twins.refused(DUE, "it is moved", Shires.MIXED, s -> s.move(2), -3);
        Twins.refused(DUE, "there are no houses", Shires.FRESH, s -> s.move(0), -1);
        DUE.is("the last of 14", Shires.FULL.get().move(13), 10);
        Twins.refused(DUE, "behind 14", Shires.FULL, s -> s.move(14), -1);
    }

    private static void promise8() {
        DUE.says("Promise 8", "n MONTHS (1 .. 60): MONTH.");
        HollowShire x = new HollowShire();
        DUE.is("one", x.run(1), 1);
        DUE.is("60", x.run(60), 61);
        x.rain(1);
        x.run(3);
        DUE.is("each of them goes by", x.cellTold(9, 1), 3);
        DUE.says("Promise 8", "BAD; FULL: beyond 1200.");
        new Edges(DUE, Shires.MIXED, "run", (s, a) -> s.run(a[0])).arg(5, 1, 60, -2).check();
        Twins.refused(DUE, "beyond the last month", Shires.LATE, s -> s.run(1), -4);
        Twins.refused(DUE, "far beyond it", Shires.LATE, s -> s.run(60), -4);
        Twins.refused(DUE, "beyond it by 61", Shires.LATE, s -> s.run(61), -2);
        for (int ahead = 1; ahead <= 60; ahead += 59) {
            HollowShire s = new HollowShire();
            Due.run(s, 1200 - ahead);
            if (ahead < 60) DUE.is("one too many", s.run(ahead + 1), -4);
            DUE.is("to the last month", s.run(ahead), 1200);
        }
        HollowShire s = new HollowShire();
        Due.run(s, 1141);
        DUE.is("60 are one too many", s.run(60), -4);
        DUE.is("none went by", s.count(0), 1141);
    }
}
