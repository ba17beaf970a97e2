import java.util.Arrays;
import java.util.function.Supplier;

/** Beside, plans and images of Terms 4, and promises 27 to 34, at their edges. */
public final class EdgesAheadTest {
    private static final Due DUE = new Due();
    private static final String FOUR = "Terms 4";

    public static void main(String[] args) {
        beside();
        besideChangesNothing();
        plansOfSheets();
        plansByRoom();
        plansOfMovedOnes();
        plansAsBits();
        imageKeeps();
        imageKeepsNot();
        promise27();
        promise28();
        promise29();
        promise29Refusals();
        promise30();
        promise31();
        promise32();
        promise33();
        promise33Since();
        promise34();
        DUE.end("EdgesAheadTest");
    }

    /** What beside tells is what comes when the months go by. */
    private static void besideIs(Supplier<HollowShire> shire, int n, int pump, int pumped) {
        HollowShire now = shire.get(), then = shire.get();
        if (pump >= 0) then.pumping(pump, pumped);
        then.run(n);
        String call = "beside(" + n + ", " + pump + ", " + pumped + ", ";
        DUE.is(call + "0)", now.beside(n, pump, pumped, 0), then.count(4) - now.count(4));
        DUE.is(call + "1)", now.beside(n, pump, pumped, 1), then.count(5) - now.count(5));
        DUE.is(call + "2)", now.beside(n, pump, pumped, 2), then.count(0));
    }

    /** Rows of salt, gypsum and old mines under rain, with houses and two pumps: more fall with each month. */
    private static HollowShire hollowed() {
        HollowShire x = new HollowShire();
        for (int c = 0; c < 32; c++) x.ground(c, 1 + c % 3, 40 + c);
        for (int h = 0; h < 10; h++) x.house(3 * h, 100 + h, h);
        x.pump(9);
        x.pump(18);
        x.pumping(0, 50);
        x.rain(30);
        x.run(2);
        return x;
    }

    private static void beside() {
        DUE.says(FOUR, "BESIDE: what would be in n MONTHS (a PUMP PUMPING something else), if nothing more is told:");
        for (int n : new int[] {1, 2, 7, 59, 60}) {
            besideIs(EdgesAheadTest::hollowed, n, -1, 0);
            for (int pumped : new int[] {0, 1, 50}) {
                for (int p = 0; p < 2; p++) besideIs(EdgesAheadTest::hollowed, n, p, pumped);
                besideIs(Shires.MIXED, n, 1, pumped);
            }
            besideIs(Shires.FULL, n, 5, 50);
        }
        HollowShire x = hollowed();
        DUE.is("something comes", x.beside(60, -1, 0, 0) > 0 ? 1 : 0, 1);
        DUE.is("the pump matters", x.beside(7, 1, 50, 0) != x.beside(7, 1, 0, 0) ? 1 : 0, 1);
    }

    private static void besideChangesNothing() {
        DUE.says(FOUR, "nothing changes.");
        for (int p = -1; p < 2; p++) {
            int pump = p;
            Twins.unchanged(DUE, "beside of pump " + p, Shires.MIXED, s -> s.beside(60, pump, 50, 1));
        }
        Twins.unchanged(DUE, "beside", Shires.FULL, s -> s.beside(60, 5, 50, 0));
        Twins.unchanged(DUE, "beside, asked again", Shires.MIXED, s -> {
            s.beside(60, 0, 0, 0);
            s.beside(1, 1, 9, 2);
        });
        Supplier<HollowShire> planned = () -> {
            HollowShire s = Shires.MIXED.get();
            s.plan(0, 999, 60);
            return s;
        };
        Twins.unchanged(DUE, "a plan that was found before", planned, s -> s.plan(0, 999, 60));
        DUE.is("planned moves nobody", planned.get().houseTold(0, 4), 0);
        DUE.is("planned lets nothing fall", planned.get().count(4), 1);
        DUE.is("planned lets no month pass", planned.get().count(0), 3);
    }

    /** Houses 0 .. of so many people, each worth 10, in cells that fall in the first month; house 13 stands. */
    private static HollowShire falling(int... people) {
        HollowShire x = new HollowShire();
        for (int h = 0; h < people.length; h++) {
            x.house(20 + h, 10, people[h]);
            x.ground(20 + h, 0, 200);
        }
        for (int h = people.length; h < 14; h++) x.house(50, 10, 3);
        return x;
    }

    private static long plan(HollowShire x, int room, int n, int... houses) {
        Due.fill(x, 0, 2, houses);
        return x.plan(0, room, n);
    }

    private static void plansOfSheets() {
        DUE.says(FOUR, "A PLAN by a SHEET (0 to 8 HOUSES), room, n MONTHS:");
        HollowShire x = falling(1, 2, 4, 8, 16, 32, 64, 99);
        long harm = 80 + 226000;
        DUE.is("none", plan(x, 999, 1), harm);
        DUE.is("its set", x.planned(), 0);
        DUE.is("one", plan(x, 999, 1, 7), harm - 99000);
        DUE.is("eight", plan(x, 999, 60, 0, 1, 2, 3, 4, 5, 6, 7), 80);
        DUE.is("all of them", x.planned(), 255);
        DUE.is("nine", plan(x, 999, 60, 0, 1, 2, 3, 4, 5, 6, 7, 8), Due.NO);
        DUE.is("one that is none", plan(x, 999, 60, 14), Due.NO);
        DUE.is("the last one stands", plan(x, 999, 60, 13), harm);
    }

    private static void plansByRoom() {
        DUE.says(FOUR, "of all sets of its numbers whose HOUSES that aren't MOVED have PEOPLE that come to the room at most (each HOUSE once):");
        HollowShire x = falling(1, 2, 4, 8, 16, 32, 64, 99);
        Due.fill(x, 0, 2, 0, 1, 2, 3, 4, 5, 6);
        for (int room = 0; room < 128; room++) {
            // Of the powers of two, those in the room's bits are moved.
            DUE.is("room " + room, x.plan(0, room, 1), 80 + 226000 - 1000L * room);
            DUE.is("its set", x.planned(), room);
        }
        DUE.is("room 98 for 99", plan(x, 98, 1, 7), 226080);
        DUE.is("room 99 for 99", plan(x, 99, 1, 7), 127080);
        DUE.is("room 226 for all", plan(x, 226, 1, 0, 1, 2, 3, 4, 5, 6, 7), 80);
        DUE.is("room 225: all but one", plan(x, 225, 1, 0, 1, 2, 3, 4, 5, 6, 7), 1080);
        DUE.is("not the first", x.planned(), 254);
        DUE.is("a house twice is one house", plan(x, 3, 1, 0, 0, 1, 1), 226080 - 3000);
        DUE.is("its first places", x.planned(), 5);
        DUE.is("room 2 for it", plan(x, 2, 1, 0, 0, 1, 1), 226080 - 2000);
    }

    private static void plansOfMovedOnes() {
        DUE.says(FOUR, "these MOVED, then n MONTHS, BESIDE: the set with the least HARM in these;");
        HollowShire x = falling(5, 7, 9);
        x.move(0);
        DUE.is("one that is moved needs no room", plan(x, 7, 1, 0, 1, 2), 30 + 9000);
        DUE.is("nor is it in the set", x.planned(), 2);
        DUE.is("room 15", plan(x, 15, 1, 0, 1, 2), 30 + 7000);
        DUE.is("room 16", plan(x, 16, 1, 0, 1, 2), 30);
        x.run(1);
        DUE.is("all are gone: no harm in these months", plan(x, 999, 60, 0, 1, 2), 0);
        DUE.is("so the set is none", x.planned(), 0);
        HollowShire later = new HollowShire();
        later.ground(20, 2, 60);
        later.house(20, 1, 3);
        later.pump(20);
        later.pumping(0, 4);
        later.rain(4);
        // 2 more each month: 70 after five of them, and above in the sixth.
        DUE.is("five months", plan(later, 999, 5, 0), 0);
        DUE.is("none", later.planned(), 0);
        DUE.is("six months", plan(later, 999, 6, 0), 1);
        DUE.is("the one", later.planned(), 1);
        DUE.is("six months without room", plan(later, 2, 6, 0), 3001);
    }

    private static void plansAsBits() {
        DUE.says(FOUR, "of like ones the least as bits.");
        HollowShire x = falling(4, 4, 4, 0);
        plan(x, 8, 1, 2, 1, 0);
        DUE.is("two of three", x.planned(), 3);
        plan(x, 4, 1, 3, 13, 2, 1);
        DUE.is("not one of no people, nor one that stands", x.planned(), 4);
        plan(x, 3, 1, 2, 1, 0);
        DUE.is("none", x.planned(), 0);
    }

    /** In month 4: cell 9 fell with house 0 in month 1; house 1 is moved; pump 0 pumps 5. */
    private static HollowShire before() {
        HollowShire x = new HollowShire();
        x.rain(3);
        x.ground(10, 2, 30);
        x.ground(11, 1, 40);
        x.house(9, 70, 2);
        x.house(11, 80, 3);
        x.house(12, 90, 4);
        x.pump(10);
        x.pumping(0, 5);
        x.move(1);
        x.run(1);
        x.ground(9, 3, 100);
        x.run(3);
        return x;
    }

    private static void changeAll(HollowShire x) {
        x.ground(10, 1, 77);
        x.ground(11, 3, 78);
        x.ground(12, 0, 200);
        x.rain(50);
        x.pumping(0, 50);
        x.move(2);
        x.run(9);
    }

    private static void imageKeeps() {
        DUE.says(FOUR, "AN IMAGE keeps all of 1 (not which HOUSES and PUMPS there are),");
        HollowShire x = before();
        x.image();
        changeAll(x);
        x.back();
        HollowShire alike = before();
        for (int w = 0; w < 12; w++) DUE.is("count(" + w + ")", x.count(w), alike.count(w));
        for (int c = 0; c < 64; c++) for (int w = 0; w < 5; w++) DUE.is("cell " + c + " what " + w, x.cellTold(c, w), alike.cellTold(c, w));
        for (int h = 0; h < 3; h++) for (int w = 0; w < 5; w++) DUE.is("house " + h + " what " + w, x.houseTold(h, w), alike.houseTold(h, w));
        for (int r = 0; r < 4; r++) for (int p = 0; p < 2; p++) DUE.is("often " + r, x.often(r, p), alike.often(r, p));
        DUE.is("beside", x.beside(60, -1, 0, 0), alike.beside(60, -1, 0, 0));
        DUE.is("pumping", x.pumping(0, 5), 5);
        for (int c = 0; c < 64; c++) DUE.is("hollow of " + c, x.ground(c, 0, 0), alike.ground(c, 0, 0));
        DUE.is("gone ahead of it stays gone", x.houseTold(0, 3), 1);
        DUE.is("moved ahead of it stays moved", x.houseTold(1, 4), 1);
        HollowShire more = before();
        more.image();
        more.house(30, 1, 1);
        more.pump(30);
        more.back();
        DUE.is("houses stay", more.count(2), 4);
        DUE.is("pumps stay", more.count(3), 2);
    }

    private static void imageKeepsNot() {
        DUE.says(FOUR, "not SIGNS, LOST waters, WARNINGS, TEXTS, THE RULE.");
        HollowShire x = before();
        x.sign(1, 20, 5);
        x.image();
        x.run(1);
        x.mend(0, 9);
        x.sign(1, 20, 7);
        x.lost(20, 50);
        x.warn(20);
        Due.rule(x, "build 1;move 2;owe 3;");
        Due.feed(x, "build");
        Due.fill(x, 1, 1, 20);
        x.fit(1, 5);
        Due.fill(x, 2, 2, 30, 1);
        x.looks(2, 1, 5);
        x.ground(12, 0, 200);
        Due.fill(x, 3, 0, 2);
        x.plan(3, 99, 1);
        x.back();
        long[] counts = {4, 2, 3, 1, 1, 2070, 1, 2, 1, 5, 1, 3};
        for (int w = 0; w < 12; w++) DUE.is("count(" + w + ")", x.count(w), counts[w]);
        DUE.is("mended", x.mend(0, 9), -3);
        DUE.is("its month is to come", x.signTold(0, 3, 4), 5);
        DUE.is("the fit", x.fitTold(0, 0), 50);
        DUE.is("the looks", x.lookTold(), 1);
        DUE.is("the plan", x.planned(), 1);
        DUE.is("the sheet", x.fit(1, 4), 1);
        DUE.is("the rule", x.law(0, 1, 0), 2);
        x.run(1);
        DUE.is("known again", x.signTold(0, 3, 5), 9);
    }

    private static void promise27() {
        DUE.says("Promise 27", "Of a CELL what 0 ROCK, 1 WATER, 2 the MONTH in which it FELL (-1), 3 its HOLLOW (-3: it did not fall), 4 people. "
            + "-5: no such CELL; -7: what.");
        HollowShire x = new HollowShire();
        x.rain(7);
        x.run(1);
        x.ground(63, 2, 200);
        x.ground(62, 1, 90);
        for (int c = 62; c < 64; c++) x.house(c, 1, 99);
        x.house(62, 1, 1);
        x.run(1);
        long[][] told = {{1, 14, -1, -3, 100}, {2, 14, 1, 200, 0}};
        for (int c = 62; c < 64; c++) for (int w = 0; w < 5; w++) DUE.is("cell " + c + " what " + w, x.cellTold(c, w), told[c - 62][w]);
        x.move(0);
        DUE.is("one is moved", x.cellTold(62, 4), 1);
        HollowShire zero = new HollowShire();
        zero.ground(0, 3, 61);
        zero.run(1);
        DUE.is("fell in month 0", zero.cellTold(0, 2), 0);
        DUE.is("its hollow", zero.cellTold(0, 3), 61);
        new Edges(DUE, Shires.MIXED, "cellTold", (s, a) -> s.cellTold(a[0], a[1])).arg(41, 0, 63, -5).arg(0, 0, 4, -7).order(-5, -7).check();
    }

    private static void promise28() {
        DUE.says("Promise 28", "Of a HOUSE what 0 CELL, 1 WORTH, 2 PEOPLE, 3 the MONTH in which it is GONE (-1), 4 MOVED (1, 0). "
            + "-5: no such HOUSE; -7: what.");
        HollowShire x = new HollowShire();
        x.house(0, 1, 0);
        x.house(63, 99999, 99);
        x.move(1);
        long[][] told = {{0, 1, 0, -1, 0}, {63, 99999, 99, -1, 1}};
        for (int h = 0; h < 2; h++) for (int w = 0; w < 5; w++) DUE.is("house " + h + " what " + w, x.houseTold(h, w), told[h][w]);
        x.run(5);
        x.ground(0, 0, 121);
        x.run(1);
        DUE.is("gone in month 5", x.houseTold(0, 3), 5);
        DUE.is("not moved", x.houseTold(0, 4), 0);
        new Edges(DUE, Shires.MIXED, "houseTold", (s, a) -> s.houseTold(a[0], a[1])).arg(1, 0, 3, -5).arg(0, 0, 4, -7).order(-5, -7).check();
        new Edges(DUE, Shires.FULL, "houseTold", (s, a) -> s.houseTold(a[0], a[1])).arg(1, 0, 13, -5).arg(0, 0, 4, -7).order(-5, -7).check();
        Twins.refused(DUE, "there are no houses", Shires.FRESH, s -> s.houseTold(0, 5), -5);
    }

    private static void promise29() {
        DUE.says("Promise 29", "BESIDE, n MONTHS (1 .. 60), a PUMP (-1: all as they are) PUMPING so much: what 0 how many CELLS fall, "
            + "1 HARM that comes, 2 the MONTH then.");
        HollowShire x = Due.withFallen(7);
        x.house(9, 300, 2);
        x.house(10, 40, 3);
        x.move(1);
        x.ground(9, 0, 200);
        x.ground(10, 0, 200);
        x.ground(11, 0, 200);
        long[] told = {3, 2340, 2};
        for (int w = 0; w < 3; w++) DUE.is("what " + w, x.beside(1, -1, 0, w), told[w]);
        DUE.is("in 60 months", x.beside(60, -1, 0, 2), 61);
        x.run(1);
        long[] then = {0, 0, 3};
        for (int w = 0; w < 3; w++) DUE.is("then what " + w, x.beside(1, -1, 0, w), then[w]);
        HollowShire wet = new HollowShire();
        wet.ground(9, 2, 60);
        wet.pump(9);
        wet.pump(9);
        wet.pumping(0, 4);
        wet.rain(4);
        DUE.is("all as they are, whatever is pumped", wet.beside(6, -1, 50, 0), 1);
        DUE.is("five months of them", wet.beside(5, -1, 0, 0), 0);
        DUE.is("pump 0 stands still", wet.beside(6, 0, 0, 0), 0);
        DUE.is("pump 1 finds nothing", wet.beside(6, 1, 50, 0), 1);
        // Two pumps of 2: 1 and 1 more each month, as by 4; of 1 and 3: 0 and 1.
        DUE.is("pump 0 pumps 2, and 1 nothing", wet.beside(6, 0, 2, 0), 0);
    }

    private static void promise29Refusals() {
        DUE.says("Promise 29", "NO: n, PUMP, pumped (0 .. 50), what, beyond MONTH 1200.");
        Edges.Call beside = (s, a) -> s.beside(a[0], a[1], a[2], a[3]);
        new Edges(DUE, Shires.MIXED, "beside", beside)
            .arg(5, 1, 60, Due.NO).arg(1, -1, 1, Due.NO).arg(5, 0, 50, Due.NO).arg(1, 0, 2, Due.NO).order(Due.NO).check();
        new Edges(DUE, Shires.FULL, "beside", (s, a) -> s.beside(1, a[0], 0, 0)).arg(1, -1, 5, Due.NO).check();
        new Edges(DUE, Shires.FRESH, "beside", (s, a) -> s.beside(1, a[0], 0, 0)).arg(-1, -1, -1, Due.NO).check();
        Twins.refused(DUE, "beyond", Shires.LATE, s -> s.beside(1, -1, 0, 2), Due.NO);
        HollowShire x = new HollowShire();
        Due.run(x, 1140);
        DUE.is("60 to the last month", x.beside(60, -1, 0, 2), 1200);
        x.run(1);
        DUE.is("60 are beyond", x.beside(60, -1, 0, 2), Due.NO);
        DUE.is("59", x.beside(59, -1, 0, 2), 1200);
        Due.run(x, 58);
        DUE.is("one", x.beside(1, -1, 0, 2), 1200);
        DUE.is("two", x.beside(2, -1, 0, 2), Due.NO);
    }

    private static void promise30() {
        DUE.says("Promise 30", "A PLAN, room 0 .. 999, n 1 .. 60: its HARM.");
        HollowShire x = falling(0, 1);
        DUE.is("room 0", plan(x, 0, 1, 0, 1), 1020);
        DUE.is("room 999", plan(x, 999, 60, 0, 1), 20);
        DUE.is("no house", plan(new HollowShire(), 0, 1), 0);
        DUE.says("Promise 30", "NO: SHEET, missing, its size, room, n, beyond MONTH 1200, a number that is no HOUSE.");
        new Edges(DUE, Shires.MIXED, "plan", (s, a) -> s.plan(a[0], a[1], a[2]))
            .arg(0, 0, 3, Due.NO).arg(5, 0, 999, Due.NO).arg(5, 1, 60, Due.NO).order(Due.NO).check();
        Twins.refused(DUE, "missing", Shires.MIXED, s -> s.plan(2, 5, 5), Due.NO);
        Twins.refused(DUE, "beyond", Shires.LATE, s -> s.plan(0, 5, 1), Due.NO);
        int[][] bad = {{4}, {-1}, {0, 4}, {0, 1, -1}, {0, 0, 0, 0, 0, 0, 0, 4}, new int[9], new int[40], {Integer.MAX_VALUE}, {Integer.MIN_VALUE}, {256}};
        for (int[] numbers : bad) {
            Supplier<HollowShire> shire = Shires.withSheet(2, numbers);
            Twins.refused(DUE, "plan of " + Arrays.toString(numbers), shire, s -> s.plan(2, 5, 5), Due.NO);
        }
        DUE.isNot("eight, to the last house", Shires.withSheet(2, 0, 1, 2, 3, 3, 2, 1, 0).get().plan(2, 5, 5), Due.NO);
        Twins.refused(DUE, "there are no houses", () -> {
            HollowShire s = new HollowShire();
            Due.fill(s, 0, 2, 0);
            return s;
        }, s -> s.plan(0, 0, 1), Due.NO);
        HollowShire late = new HollowShire();
        late.sheet(0, 2, 0);
        Due.run(late, 1140);
        DUE.is("60 to the last month", late.plan(0, 0, 60), 0);
        late.run(1);
        DUE.is("60 are beyond", late.plan(0, 0, 60), Due.NO);
        DUE.is("59", late.plan(0, 0, 59), 0);
    }

    private static void promise31() {
        DUE.says("Promise 31", "The set of the PLAN that was found last, as bits of its SHEET's numbers (0 at first).");
        HollowShire x = falling(9, 9, 9, 9, 9, 9, 9, 9);
        DUE.is("at first", x.planned(), 0);
        for (int i = 0; i < 8; i++) {
            int[] row = new int[8];
            Arrays.fill(row, 13);
            row[i] = i;
            plan(x, 9, 1, row);
            DUE.is("place " + i, x.planned(), 1 << i);
        }
        plan(x, 9, 1, 5, 4);
        DUE.is("by its place, not its house", x.planned(), 1);
        DUE.is("refused", x.plan(0, 1000, 1), Due.NO);
        DUE.is("the last one stays", x.planned(), 1);
        plan(x, 8, 1, 5, 4);
        DUE.is("none", x.planned(), 0);
    }

    private static void promise32() {
        DUE.says("Promise 32", "AN IMAGE is kept: MONTH.");
        HollowShire x = new HollowShire();
        DUE.is("in month 0", x.image(), 0);
        Twins.unchanged(DUE, "keeping the same image", () -> {
            HollowShire s = Shires.MIXED.get();
            s.image();
            return s;
        }, HollowShire::image);
        x.rain(5);
        x.run(60);
        DUE.is("in month 60", x.image(), 60);
        x.run(60);
        DUE.is("the later one", x.back(), 60);
        DUE.is("its water", x.cellTold(0, 1), 300);
        HollowShire late = Shires.LATE.get();
        DUE.is("in the last month", late.image(), 1200);
        DUE.is("back to it", late.back(), 1200);
        DUE.is("no more goes by", late.run(1), -4);
    }

    private static void promise33() {
        DUE.says("Promise 33", "All that it keeps is as in THE IMAGE");
        HollowShire x = before();
        x.image();
        DUE.is("back at once", x.back(), 4);
        changeAll(x);
        DUE.is("back", x.back(), 4);
        changeAll(x);
        DUE.is("and again", x.back(), 4);
        DUE.is("harm", x.count(5), 2070);
        HollowShire late = new HollowShire();
        late.image();
        Due.run(late, 1200);
        DUE.is("from the last month to the first", late.back(), 0);
        DUE.is("months go by again", late.run(60), 60);
        DUE.says("Promise 33", "MONTH. STATE: there is none.");
        Twins.refused(DUE, "there is none", Shires.FRESH, HollowShire::back, -3);
        Twins.refused(DUE, "there is none", Shires.FULL, HollowShire::back, -3);
    }

    private static void promise33Since() {
        DUE.says("Promise 33", "(HOUSES that came since: neither GONE nor MOVED; PUMPS that came since PUMP 0)");
        HollowShire x = before();
        x.image();
        for (int h = 3; h < 14; h++) x.house(20 + h, 5, 5);
        for (int p = 1; p < 6; p++) x.pump(20);
        for (int p = 1; p < 6; p++) x.pumping(p, 40 + p);
        for (int h = 3; h < 14; h += 2) x.move(h);
        for (int h = 3; h < 14; h += 3) x.ground(20 + h, 0, 200);
        x.run(3);
        DUE.is("one is gone", x.houseTold(12, 3), 4);
        x.back();
        for (int h = 3; h < 14; h++) {
            DUE.is("house " + h + " is not gone", x.houseTold(h, 3), -1);
            DUE.is("house " + h + " is not moved", x.houseTold(h, 4), 0);
            DUE.is("house " + h + " is where it was", x.houseTold(h, 0), 20 + h);
        }
        for (int p = 1; p < 6; p++) DUE.is("pump " + p, x.pumping(p, 1), 0);
        DUE.is("pump 0 as in the image", x.pumping(0, 1), 5);
        DUE.is("a house before it stays gone", x.houseTold(0, 3), 1);
        DUE.is("the other one stays moved", x.houseTold(1, 4), 1);
        x.move(13);
        x.image();
        x.move(12);
        x.back();
        DUE.is("in the next image it is moved", x.houseTold(13, 4), 1);
        DUE.is("and not the other one", x.houseTold(12, 4), 0);
    }

    private static void promise34() {
        DUE.says("Promise 34", "0 MONTH, 1 SIGNS, 2 HOUSES, 3 PUMPS, 4 CELLS that FELL, 5 HARM, 6 WARNINGS, 7 TEXTS, 8 THE RULE, "
            + "9 bytes of THE TAPE, 10 LOST waters, 11 RAIN. BAD.");
        HollowShire x = new HollowShire();
        long[] first = {0, 0, 0, 0, 0, 0, 0, 1, 0, 0, 0, 0};
        for (int w = 0; w < 12; w++) DUE.is("at first count(" + w + ")", x.count(w), first[w]);
        long[] mixed = {3, 4, 4, 2, 1, 4000, 2, 2, 1, 15, 2, 7};
        for (int w = 0; w < 12; w++) DUE.is("count(" + w + ")", Shires.MIXED.get().count(w), mixed[w]);
        long[] full = {2, 30, 14, 6, 1, 0, 30, 6, 0, 160, 8, 0};
        for (int w = 0; w < 12; w++) DUE.is("full count(" + w + ")", Shires.FULL.get().count(w), full[w]);
        for (int c = 0; c < 64; c++) x.ground(c, 0, 200);
        x.run(1);
        DUE.is("all cells fell", x.count(4), 64);
        new Edges(DUE, Shires.MIXED, "count", (s, a) -> s.count(a[0])).arg(1, 0, 11, -2).check();
    }
}
