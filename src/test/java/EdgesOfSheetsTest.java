import java.util.Arrays;
import java.util.function.Supplier;

/** Sheets and refusals of Terms 4, and promises 35 to 39, at their edges. */
public final class EdgesOfSheetsTest {
    private static final Due DUE = new Due();
    private static final String FOUR = "Terms 4";

    public static void main(String[] args) {
        sheets();
        refusals();
        refusalsOfTheHost();
        promise35();
        promise35Refusals();
        promise36();
        promise36Refusals();
        promise37();
        promise37Refusals();
        promise38();
        promise38Full();
        promise38Refusals();
        promise39();
        promise39Refusals();
        DUE.end("EdgesOfSheetsTest");
    }

    /** The three numbers from this place on, read as a sign; KIND, CELL, VALUE as one number, or -1 if they are none. */
    private static long three(HollowShire x, int s, int sort, int from) {
        int k = x.count(1);
        if (x.signs(s, sort, from, 1) != 1) return -1;
        int month = x.count(0);
        return x.signTold(k, 0, month) * 10000L + x.signTold(k, 1, month) * 100L + x.signTold(k, 3, month);
    }

    private static void sheets() {
        DUE.says(FOUR, "SHEETS 0 .. 3 are rows of numbers, or missing (as all are at first): of sort 0 bytes, 1 shorts, 2 ints, 40 at most.");
        HollowShire x = new HollowShire();
        for (int s = 0; s < 4; s++) {
            DUE.is("sheet " + s + " is missing at first", x.cell(s, 0, 1), -11);
            DUE.is("a row of 40", x.sheet(s, s % 3, 40), 1);
            DUE.is("its first", x.cell(s, 0, 1), 1);
            DUE.is("its last", x.cell(s, 39, 1), 1);
            DUE.is("behind", x.cell(s, 40, 1), -12);
            DUE.is("a row of 41", x.sheet(s, s % 3, 41), -2);
            DUE.is("a row of 0", x.sheet(s, s % 3, 0), 1);
            DUE.is("it has no first", x.cell(s, 0, 1), -12);
        }
        DUE.is("there is no sheet 4", x.sheet(4, 0, 1), -2);
        DUE.is("nor -1", x.sheet(-1, 0, 1), -2);
        for (int s = 0; s < 4; s++) Due.fill(x, s, 2, s, s, s);
        for (int s = 0; s < 4; s++) DUE.is("each has its own numbers", three(x, s, 2, 0), 10101L * s);
    }

    private static void refusals() {
        DUE.says(FOUR, "REFUSALS, of several the first one told: NONE there is no such CELL, HOUSE, PUMP, SIGN, SHEET; "
            + "BAD a number is not as told; STATE as told; FULL.");
        DUE.is("NONE", HollowShire.NONE, -1);
        DUE.is("BAD", HollowShire.BAD, -2);
        DUE.is("STATE", HollowShire.STATE, -3);
        DUE.is("FULL", HollowShire.FULL, -4);
        DUE.is("NO", HollowShire.NO, -4611686018427387904L);
        Supplier<HollowShire> full = Shires.FULL;
        Twins.refused(DUE, "NONE of a CELL ahead of all", full, s -> s.house(64, 0, 100), -1);
        Twins.refused(DUE, "BAD ahead of STATE and FULL", full, s -> s.house(7, 0, 5), -2);
        Twins.refused(DUE, "STATE ahead of FULL", full, s -> s.house(7, 5, 5), -3);
        Twins.refused(DUE, "FULL", full, s -> s.house(8, 5, 5), -4);
        Twins.refused(DUE, "NONE of a HOUSE", full, s -> s.move(14), -1);
        Twins.refused(DUE, "NONE of a PUMP", full, s -> s.pumping(6, 51), -1);
        Twins.refused(DUE, "NONE of a SIGN", full, s -> s.mend(30, 100), -1);
        Twins.refused(DUE, "NONE of a SHEET", full, s -> s.fit(4, 99), -1);
        Twins.refused(DUE, "BAD ahead of FULL", full, s -> s.feed(0, 9), -2);
    }

    private static void refusalsOfTheHost() {
        DUE.says(FOUR, "The host's: -11 nothing there, -12 a place outside, -13 of another sort or KIND, -14 a size below 0. They change nothing.");
        Supplier<HollowShire> mixed = Shires.MIXED;
        Twins.refused(DUE, "-11: a sheet", mixed, s -> s.cell(2, 0, 9), -11);
        Twins.refused(DUE, "-11: a sign", mixed, s -> s.taken(0, 4, 0), -11);
        Twins.refused(DUE, "-12", mixed, s -> s.cell(0, 3, 9), -12);
        Twins.refused(DUE, "-13: another sort", mixed, s -> s.copy(0, 0, 1, 0, 1), -13);
        Twins.refused(DUE, "-13: another kind", mixed, s -> s.taken(0, 0, 1), -13);
        Twins.refused(DUE, "-14", mixed, s -> s.sheet(0, 0, -1), -14);
        Twins.refused(DUE, "-14, far below", mixed, s -> s.sheet(0, 0, Integer.MIN_VALUE), -14);
    }

    private static void promise35() {
        DUE.says("Promise 35", "A SHEET becomes a row of n of a sort, all 0, or missing (sort -1: n does not matter): 1.");
        for (int sort = 0; sort < 3; sort++) {
            HollowShire x = new HollowShire();
            Due.fill(x, 3, sort, 1, 2, 3, 4, 5, 6);
            DUE.is("as told", three(x, 3, sort, 3), 40506);
            DUE.is("anew", x.sheet(3, sort, 6), 1);
            for (int i = 0; i < 6; i += 3) DUE.is("all 0", three(x, 3, sort, i), 0);
            Due.fill(x, 3, sort, 1, 2, 3, 4, 5, 6);
            x.sheet(3, sort, 3);
            DUE.is("shorter", x.cell(3, 3, 1), -12);
            x.sheet(3, sort, 6);
            DUE.is("longer, all 0", three(x, 3, sort, 3), 0);
        }
        int[] any = {0, 1, 40, 41, -1, Integer.MIN_VALUE, Integer.MAX_VALUE};
        for (int n : any) {
            HollowShire x = new HollowShire();
            Due.fill(x, 0, 2, 1, 2, 3);
            DUE.is("missing, n " + n, x.sheet(0, -1, n), 1);
            DUE.is("it is", x.cell(0, 0, 1), -11);
            DUE.is("again", x.sheet(0, -1, n), 1);
            x.sheet(0, 2, 3);
            DUE.is("a row again, all 0", three(x, 0, 2, 0), 0);
        }
        HollowShire x = new HollowShire();
        x.sheet(0, 0, 3);
        x.sheet(0, 2, 3);
        x.cell(0, 2, 300);
        DUE.is("an int of another sort's sheet", three(x, 0, 2, 0), -1);
    }

    private static void promise35Refusals() {
        DUE.says("Promise 35", "BAD: SHEET, sort, n above 40; -14.");
        new Edges(DUE, Shires.MIXED, "sheet", (s, a) -> s.sheet(a[0], a[1], a[2]))
            .arg(0, 0, 3, -2).arg(1, -1, 2, -2).arg(5, 0, 40, -14, -2).order(-2, -14).check();
        new Edges(DUE, Shires.FRESH, "sheet", (s, a) -> s.sheet(a[0], a[1], a[2]))
            .arg(0, 0, 3, -2).arg(0, -1, 2, -2).arg(5, 0, 40, -14, -2).order(-2, -14).check();
        Twins.refused(DUE, "missing, of no sheet", Shires.MIXED, s -> s.sheet(4, -1, 0), -2);
    }

    /** What a sheet of this sort keeps of v, if that is 0 .. 99, else -1. */
    private static long kept(int sort, int v) {
        HollowShire x = new HollowShire();
        Due.fill(x, 0, sort, 0, 0, v);
        return three(x, 0, sort, 0);
    }

    private static void promise36() {
        DUE.says("Promise 36", "Number i of a SHEET becomes v (of bytes, shorts its lowest 8, 16 bits): 1.");
        int[] alike = {0, 1, 57, 99};
        for (int v : alike) for (int sort = 0; sort < 3; sort++) DUE.is(v + " in sort " + sort, kept(sort, v), v);
        int[] by8 = {256, -256, 512, 0x7fff00, 32768, 65536, -65536, Integer.MIN_VALUE, 0x7fffff00};
        for (int more : by8) {
            DUE.is("57 and " + more + " in a byte", kept(0, more + 57), 57);
            DUE.is("57 and " + more + " in a short", kept(1, more + 57), more % 65536 == 0 ? 57 : -1);
            DUE.is("57 and " + more + " in an int", kept(2, more + 57), -1);
        }
        int[] no = {100, 127, 128, 255, -1, -128};
        for (int v : no) for (int sort = 0; sort < 3; sort++) DUE.is(v + " is no value in sort " + sort, kept(sort, v), -1);
        HollowShire x = new HollowShire();
        Due.fill(x, 1, 1, 9, 9999);
        DUE.is("a short of 9999", x.looks(1, 9999, 0), 170);
        Due.fill(x, 1, 0, 9, 127);
        DUE.is("a byte of 127", x.looks(1, 127, 0), 170);
        DUE.is("not for 126", x.looks(1, 126, 0), 0);
        x.sheet(2, 2, 3);
        for (int i = 0; i < 3; i++) DUE.is("1", x.cell(2, i, i + 3), 1);
        DUE.is("each its own place", three(x, 2, 2, 0), 30405);
        x.cell(2, 1, 6);
        DUE.is("the last one told", three(x, 2, 2, 0), 30605);
    }

    private static void promise36Refusals() {
        DUE.says("Promise 36", "BAD: SHEET; -11; -12.");
        new Edges(DUE, Shires.MIXED, "cell", (s, a) -> s.cell(a[0], a[1], 7)).arg(0, 0, 3, -2).arg(1, 0, 2, -12).order(-2, -12).check();
        Twins.refused(DUE, "missing", Shires.MIXED, s -> s.cell(2, 0, 7), -11);
        Twins.refused(DUE, "missing, and outside", Shires.MIXED, s -> s.cell(2, -1, 7), -11);
        Twins.refused(DUE, "outside an empty row", Shires.withSheet(2), s -> s.cell(2, 0, 7), -12);
        int[] wide = new int[40];
        new Edges(DUE, Shires.withSheet(0, wide), "cell", (s, a) -> s.cell(2, a[0], 7)).arg(1, 0, 39, -12).check();
    }

    private static HollowShire rows(int sort) {
        HollowShire x = new HollowShire();
        Due.fill(x, 0, sort, 1, 2, 3, 4, 5, 6, 0);
        Due.fill(x, 1, sort, 0, 7, 8);
        return x;
    }

    private static void promise37() {
        DUE.says("Promise 37", "n numbers of a SHEET, from i on, come to another one's (or its own) place j (as they were): n.");
        for (int sort = 0; sort < 3; sort++) {
            HollowShire x = rows(sort);
            DUE.is("three", x.copy(0, 3, 1, 0, 3), 3);
            DUE.is("they came", three(x, 1, sort, 0), 40506);
            DUE.is("they stayed", three(x, 0, sort, 3), 40506);
            DUE.is("one, to the last place", x.copy(0, 0, 1, 2, 1), 1);
            DUE.is("it came", three(x, 1, sort, 0), 40501);
            DUE.is("one, from the last place", x.copy(0, 6, 1, 1, 1), 1);
            DUE.is("it came", three(x, 1, sort, 0), 40001);
            DUE.is("none", x.copy(0, 3, 1, 0, 0), 0);
            DUE.is("none, at the ends", x.copy(0, 7, 1, 3, 0), 0);
            DUE.is("none came", three(x, 1, sort, 0), 40001);
            HollowShire own = rows(sort);
            DUE.is("onward", own.copy(0, 0, 0, 1, 6), 6);
            DUE.is("as they were", three(own, 0, sort, 1), 10203);
            DUE.is("all of them", three(own, 0, sort, 4), 40506);
            DUE.is("back", own.copy(0, 1, 0, 0, 6), 6);
            DUE.is("as they were", three(own, 0, sort, 0), 10203);
            DUE.is("all of them", three(own, 0, sort, 3), 40506);
            DUE.is("to the same place", own.copy(0, 0, 0, 0, 7), 7);
            DUE.is("as they were", three(own, 0, sort, 0), 10203);
        }
    }

    private static void promise37Refusals() {
        DUE.says("Promise 37", "BAD: SHEETS; -11; -13: unlike sorts; -12 (n below 0, too).");
        Edges.Call copy = (s, a) -> s.copy(a[0], a[1], a[2], a[3], a[4]);
        // Sheet 0 has three numbers: one from 1 on comes to place 1.
        new Edges(DUE, Shires.MIXED, "copy", copy)
            .arg(0, 0, 3, -2).arg(1, 0, 2, -12).arg(0, 0, 3, -2).arg(1, 0, 2, -12).arg(1, 0, 2, -12).order(-2, -12).check();
        Supplier<HollowShire> two = Shires.withSheet(2, 7, 8, 9, 10, 11);
        int[][] outside = {{0, 0, 4}, {0, 3, 3}, {1, 0, 3}, {3, 0, 1}, {0, 5, 1}, {4, 0, 0}, {0, 6, 0}, {-1, 0, 0}, {0, -1, 0}, {0, 0, -1},
            {1, 1, Integer.MAX_VALUE}, {Integer.MAX_VALUE, 0, 1}, {0, Integer.MAX_VALUE, 1}, {1, 1, Integer.MIN_VALUE},
            {Integer.MAX_VALUE, Integer.MAX_VALUE, Integer.MAX_VALUE}, {3, 5, -1}};
        for (int[] o : outside) {
            Twins.refused(DUE, "copy(0, i, 2, j, n) of " + Arrays.toString(o), two, s -> s.copy(0, o[0], 2, o[1], o[2]), -12);
        }
        int[][] inside = {{0, 0, 3}, {0, 2, 3}, {3, 0, 0}, {0, 5, 0}, {2, 4, 1}};
        for (int[] o : inside) DUE.is("copy(0, i, 2, j, n) of " + Arrays.toString(o), two.get().copy(0, o[0], 2, o[1], o[2]), o[2]);
        Twins.refused(DUE, "one is missing", Shires.MIXED, s -> s.copy(2, 0, 0, 0, 1), -11);
        Twins.refused(DUE, "the other one is missing", Shires.MIXED, s -> s.copy(0, 0, 2, 0, 1), -11);
        Twins.refused(DUE, "missing ahead of all else", Shires.MIXED, s -> s.copy(2, -1, 0, -1, -1), -11);
        Twins.refused(DUE, "missing, both", Shires.MIXED, s -> s.copy(2, 0, 2, 0, 0), -11);
        Twins.refused(DUE, "no sheet ahead of missing", Shires.MIXED, s -> s.copy(2, 0, 4, 0, 1), -2);
        Twins.refused(DUE, "ints to shorts", Shires.MIXED, s -> s.copy(0, 0, 1, 0, 1), -13);
        Twins.refused(DUE, "bytes to ints", Shires.MIXED, s -> s.copy(3, 0, 0, 0, 1), -13);
        Twins.refused(DUE, "shorts to bytes, and outside", Shires.MIXED, s -> s.copy(1, -1, 3, 9, -1), -13);
        Twins.refused(DUE, "unlike sorts, of none", Shires.MIXED, s -> s.copy(0, 0, 1, 0, 0), -13);
    }

    private static void promise38() {
        DUE.says("Promise 38", "SIGNS by a SHEET of a sort: from a place on, three by three (as of sign()), n of them (0 .. 13): "
            + "how many came (others are left out).");
        for (int sort = 0; sort < 3; sort++) {
            HollowShire x = new HollowShire();
            x.run(2);
            int[] row = new int[40];
            for (int i = 0; i < 13; i++) {
                row[3 * i + 1] = i % 6;
                row[3 * i + 2] = 50 + i;
                row[3 * i + 3] = 80 + i;
            }
            Due.fill(x, 2, sort, row);
            DUE.is("none", x.signs(2, sort, 1, 0), 0);
            DUE.is("one", x.signs(2, sort, 37, 1), 1);
            DUE.is("thirteen", x.signs(2, sort, 1, 13), 13);
            for (int k = 0; k < 14; k++) {
                int i = k == 0 ? 12 : k - 1;
                long[] told = {i % 6, 50 + i, 2, 80 + i};
                for (int w = 0; w < 4; w++) DUE.is("sign " + k + " what " + w, x.signTold(k, w, 2), told[w]);
            }
        }
        HollowShire x = new HollowShire();
        int[][] left = {{6, 0, 0}, {-1, 0, 0}, {0, 64, 0}, {0, -1, 0}, {0, 0, 100}, {0, 0, -1}};
        for (int[] l : left) {
            Due.fill(x, 0, 2, 1, 2, 3, l[0], l[1], l[2], 4, 5, 6);
            int k = x.count(1);
            DUE.is("left out " + Arrays.toString(l), x.signs(0, 2, 0, 3), 2);
            DUE.is("two came", x.count(1), k + 2);
            DUE.is("the one behind it", x.signTold(k + 1, 1, 0), 5);
            DUE.is("by itself", x.signs(0, 2, 3, 1), 0);
        }
    }

    private static void promise38Full() {
        DUE.says("Promise 38", "how many came (others are left out).");
        HollowShire x = new HollowShire();
        for (int k = 0; k < 28; k++) x.sign(0, 0, 0);
        Due.fill(x, 0, 0, 1, 2, 3, 9, 9, 9, 1, 4, 5, 1, 6, 7);
        DUE.is("two of four, and then it is full", x.signs(0, 0, 0, 4), 2);
        DUE.is("30", x.count(1), 30);
        DUE.is("the last one", x.signTold(29, 1, 0), 4);
        DUE.is("full", x.signs(0, 0, 0, 1), 0);
    }

    private static void promise38Refusals() {
        DUE.says("Promise 38", "BAD: SHEET, sort, n; -11; -13; -12: what stood ahead came.");
        new Edges(DUE, Shires.MIXED, "signs", (s, a) -> s.signs(a[0], a[1], a[2], a[3]))
            .arg(0, 0, 3, -2).arg(2, 0, 2, -2).arg(0, 0, 0, -12).arg(1, 0, 13, -2).order(-2, -12).check();
        Twins.refused(DUE, "missing", Shires.MIXED, s -> s.signs(2, 0, 0, 1), -11);
        Twins.refused(DUE, "missing, and outside", Shires.MIXED, s -> s.signs(2, 0, -1, 1), -11);
        Twins.refused(DUE, "missing, of none", Shires.MIXED, s -> s.signs(2, 0, 0, 0), -11);
        for (int sort = 0; sort < 2; sort++) {
            int other = sort;
            Twins.refused(DUE, "ints, not sort " + sort, Shires.MIXED, s -> s.signs(0, other, 0, 1), -13);
            Twins.refused(DUE, "ints, not sort " + sort + ", and outside", Shires.MIXED, s -> s.signs(0, other, -1, 1), -13);
        }
        Twins.refused(DUE, "bytes, not ints", Shires.MIXED, s -> s.signs(3, 2, 0, 0), -13);
        int[] froms = {-1, -3, 1, 2, 3, 4, Integer.MIN_VALUE, Integer.MAX_VALUE, Integer.MAX_VALUE - 1, Integer.MAX_VALUE - 2};
        for (int from : froms) Twins.refused(DUE, "from " + from, Shires.MIXED, s -> s.signs(0, 2, from, 1), -12);
        for (int from : froms) DUE.is("thirteen from " + from, Shires.MIXED.get().signs(0, 2, from, 13), -12);
        Twins.refused(DUE, "outside an empty row", Shires.withSheet(2), s -> s.signs(2, 2, 0, 1), -12);
        for (int n = 6; n <= 8; n++) {
            HollowShire x = new HollowShire();
            Due.fill(x, 0, 2, Arrays.copyOf(new int[] {1, 2, 3, 4, 5, 6, 1, 1, 1}, n));
            DUE.is("three of a row of " + n, x.signs(0, 2, 0, 3), -12);
            DUE.is("two stood ahead", x.count(1), 2);
            DUE.is("the second one", x.signTold(1, 1, 0), 5);
        }
        HollowShire nine = new HollowShire();
        Due.fill(nine, 0, 2, 1, 2, 3, 4, 5, 6, 1, 1, 1);
        DUE.is("three of a row of 9", nine.signs(0, 2, 0, 3), 3);
        DUE.is("four of it", nine.signs(0, 2, 0, 4), -12);
        DUE.is("three stood ahead", nine.count(1), 6);
        HollowShire full = Shires.FULL.get();
        DUE.is("full, and outside", full.signs(0, 2, 0, 1), -12);
    }

    private static void promise39() {
        DUE.says("Promise 39", "What lies at place i of 0 SIGNS, 1 HOUSES, 2 WARNINGS, taken for 0 .. 5 a SIGN of that KIND (also of one that is one): "
            + "its CELL; 6 a HOUSE: its WORTH; 7 a WARNING: its MONTH.");
        HollowShire x = new HollowShire();
        x.run(3);
        int[][] is = {{0}, {0, 1}, {0, 2}, {0, 1, 3}, {0, 2, 4}, {0, 5}};
        for (int k = 0; k < 6; k++) x.sign(k, 63 - k, 1);
        x.house(5, 99999, 1);
        x.house(6, 1, 1);
        x.warn(8);
        x.run(1);
        x.warn(9);
        for (int k = 0; k < 6; k++) {
            for (int as = 0; as < 8; as++) {
                int kind = as;
                boolean isOne = Arrays.stream(is[k]).anyMatch(o -> o == kind);
                DUE.is("kind " + k + " taken for " + as, x.taken(0, k, as), isOne ? 63 - k : -13);
            }
        }
        for (int as = 0; as < 8; as++) {
            DUE.is("house 0 taken for " + as, x.taken(1, 0, as), as == 6 ? 99999 : -13);
            DUE.is("house 1 taken for " + as, x.taken(1, 1, as), as == 6 ? 1 : -13);
            DUE.is("warning 0 taken for " + as, x.taken(2, 0, as), as == 7 ? 3 : -13);
            DUE.is("warning 1 taken for " + as, x.taken(2, 1, as), as == 7 ? 4 : -13);
        }
    }

    private static void promise39Refusals() {
        DUE.says("Promise 39", "BAD: what, kind; -11: nothing lies there; -13.");
        Edges.Call taken = (s, a) -> s.taken(a[0], a[1], a[2]);
        // Of sign, house and warning 1 the sign alone is a sign.
        new Edges(DUE, Shires.MIXED, "taken", taken).arg(0, 0, 2, -2).arg(1, 0, 3, -11).arg(1, 0, 7, -2).order(-2, -11).check();
        new Edges(DUE, Shires.MIXED, "taken", (s, a) -> s.taken(1, a[0], 6)).arg(1, 0, 3, -11).check();
        new Edges(DUE, Shires.MIXED, "taken", (s, a) -> s.taken(2, a[0], 7)).arg(1, 0, 1, -11).check();
        new Edges(DUE, Shires.FULL, "taken", (s, a) -> s.taken(0, a[0], 0)).arg(1, 0, 29, -11).check();
        new Edges(DUE, Shires.FULL, "taken", (s, a) -> s.taken(1, a[0], 6)).arg(1, 0, 13, -11).check();
        new Edges(DUE, Shires.FULL, "taken", (s, a) -> s.taken(2, a[0], 7)).arg(1, 0, 29, -11).check();
        for (int w = 0; w < 3; w++) {
            int what = w;
            Twins.refused(DUE, "nothing lies there, what " + w, Shires.FRESH, s -> s.taken(what, 0, 0), -11);
            Twins.refused(DUE, "nothing lies there, nor of that kind, what " + w, Shires.FRESH, s -> s.taken(what, 0, 7), -11);
        }
        Twins.refused(DUE, "a sign is no house", Shires.MIXED, s -> s.taken(0, 0, 6), -13);
        Twins.refused(DUE, "a house is no warning", Shires.MIXED, s -> s.taken(1, 0, 7), -13);
        Twins.refused(DUE, "a warning is no sign", Shires.MIXED, s -> s.taken(2, 0, 0), -13);
    }
}
