/** Promises 35 to 39: sheets, signs by sheets, and what is taken for what. */
public final class HostTest {
    private static final Due DUE = new Due();

    public static void main(String[] args) {
        promise35Sheet();
        promise36Cell();
        promise37Copy();
        promise38SignsRefuse();
        promise38Signs();
        promise39Taken();
        DUE.end("HostTest");
    }

    private static void promise35Sheet() {
        HollowShire x = new HollowShire();
        DUE.is("35 no sheet", x.sheet(4, 0, -1), -2);
        DUE.is("35 no sheet below", x.sheet(-1, 0, 1), -2);
        DUE.is("35 sort 3", x.sheet(0, 3, 1), -2);
        DUE.is("35 sort -2", x.sheet(0, -2, 1), -2);
        DUE.is("35 41", x.sheet(0, 0, 41), -2);
        DUE.is("35 -1", x.sheet(0, 0, -1), -14);
        DUE.is("35 no sheet, missing", x.sheet(4, -1, 0), -2);
        DUE.is("35 refusals make none", x.cell(0, 0, 1), -11);
        DUE.is("35 40", x.sheet(0, 2, 40), 1);
        DUE.is("35 the last place", x.cell(0, 39, 1), 1);
        DUE.is("35 no more", x.cell(0, 40, 1), -12);
        DUE.is("35 a refusal leaves the sheet", x.sheet(0, 2, 41), -2);
        DUE.is("35 it is there", x.cell(0, 39, 1), 1);
        DUE.is("35 none", x.sheet(0, 0, 0), 1);
        DUE.is("35 no place", x.cell(0, 0, 1), -12);
        Due.fill(x, 0, 2, 5, 5, 5);
        x.sheet(0, 2, 1);
        x.lost(5, 50);
        DUE.is("35 its number is 0 again", x.fit(0, 0), 0);
        Due.fill(x, 0, 2, 5, 5, 5);
        x.sheet(0, 2, 3);
        // All are 0 again: cells 0, 0, 0 are no unlike ones; one 0 is cell 0.
        DUE.is("35 all 0", x.fit(0, 0), -2);
        x.cell(0, 1, 1);
        x.cell(0, 2, 2);
        DUE.is("35 0, 1, 2", x.fit(0, 0), 0);
        DUE.is("35 missing, n above", x.sheet(0, -1, 41), 1);
        DUE.is("35 missing", x.cell(0, 0, 1), -11);
        DUE.is("35 missing, n below", x.sheet(0, -1, -1), 1);
    }

    private static void promise36Cell() {
        HollowShire x = new HollowShire();
        DUE.is("36 no sheet", x.cell(4, 0, 0), -2);
        DUE.is("36 no sheet below", x.cell(-1, 0, 0), -2);
        DUE.is("36 missing", x.cell(0, 99, 0), -11);
        x.sheet(0, 0, 2);
        DUE.is("36 below", x.cell(0, -1, 0), -12);
        DUE.is("36 behind", x.cell(0, 2, 0), -12);
        DUE.is("36 far", x.cell(0, Integer.MIN_VALUE, 0), -12);
        int[][] all = {{0, 256 + 9, 9}, {0, -247, 9}, {0, 9 + 64, -1}, {0, 128, -1}, {1, 65536 + 9, 9}, {1, 256 + 9, -1},
            {1, 32768, -1}, {2, 65536 + 9, -1}, {2, 9, 9}, {0, 65536 + 9, 9}, {1, 0x7fff0009, 9}};
        for (int[] a : all) {
            x = new HollowShire();
            x.lost(9, 50);
            Due.fill(x, 1, a[0], a[1]);
            DUE.is("36 sort " + a[0] + " " + a[1], x.fit(1, 0), a[2] < 0 ? -2 : 1);
        }
    }

    private static void promise37Copy() {
        HollowShire x = new HollowShire();
        DUE.is("37 no sheet", x.copy(4, 0, 0, 0, 0), -2);
        DUE.is("37 no other", x.copy(0, 0, 4, 0, 0), -2);
        DUE.is("37 bad ahead of missing", x.copy(0, 0, -1, 0, 0), -2);
        x.sheet(0, 2, 5);
        DUE.is("37 other missing", x.copy(0, 0, 1, 0, 9), -11);
        DUE.is("37 missing", x.copy(1, 0, 0, 0, 9), -11);
        x.sheet(1, 1, 5);
        DUE.is("37 unlike sorts", x.copy(0, 0, 1, 0, 9), -13);
        x.sheet(1, 2, 4);
        int[][] out = {{-1, 0, 1}, {0, -1, 1}, {0, 0, -1}, {0, 0, 5}, {5, 0, 1}, {0, 4, 1}, {3, 0, 3}, {0, 3, 2}, {6, 0, 0},
            {0, 5, 0}, {Integer.MAX_VALUE, 0, 1}, {0, 0, Integer.MAX_VALUE}, {1, 1, Integer.MAX_VALUE}, {0, 0, Integer.MIN_VALUE},
            {-1, 0, 0}, {0, -1, 0}};
        for (int[] o : out) DUE.is("37 outside " + o[0] + ", " + o[1] + ", " + o[2], x.copy(0, o[0], 1, o[1], o[2]), -12);
        DUE.is("37 none", x.copy(0, 5, 1, 4, 0), 0);
        for (int i = 0; i < 5; i++) x.cell(0, i, 10 + i);
        DUE.is("37 four", x.copy(0, 1, 1, 0, 4), 4);
        DUE.is("37 11 .. 14 are there", x.fit(1, 0), 0);
        x.lost(14, 20);
        x.fit(1, 0);
        // Cells 13 and 14 are near 14: the later one of the sheet has the size.
        DUE.is("37 the last", x.fitTold(3, 2), 25);
        DUE.is("37 its own", x.copy(0, 0, 0, 1, 4), 4);
        x.sheet(2, 2, 5);
        x.copy(0, 1, 2, 1, 4);
        DUE.is("37 as they were: 0, 10, 11, 12, 13", x.fit(2, 0), 1);
        DUE.is("37 13 is the last", x.fitTold(4, 0), 25);
        DUE.is("37 back", x.copy(0, 1, 0, 0, 4), 4);
        x.copy(0, 0, 2, 0, 4);
        x.cell(2, 4, 63);
        DUE.is("37 as they were: 10, 11, 12, 13", x.fit(2, 0), 1);
        DUE.is("37 13 is the fourth", x.fitTold(3, 0), 25);
    }

    private static void promise38SignsRefuse() {
        HollowShire x = new HollowShire();
        DUE.is("38 no sheet", x.signs(4, 0, 0, 0), -2);
        DUE.is("38 no sheet below", x.signs(-1, 0, 0, 0), -2);
        DUE.is("38 sort 3", x.signs(0, 3, 0, 0), -2);
        DUE.is("38 sort -1", x.signs(0, -1, 0, 0), -2);
        DUE.is("38 14", x.signs(0, 0, 0, 14), -2);
        DUE.is("38 -1", x.signs(0, 0, 0, -1), -2);
        DUE.is("38 missing", x.signs(0, 0, -1, 1), -11);
        x.sheet(0, 1, 3);
        DUE.is("38 another sort", x.signs(0, 2, -1, 1), -13);
        DUE.is("38 below", x.signs(0, 1, -1, 1), -12);
        DUE.is("38 behind", x.signs(0, 1, 1, 1), -12);
        DUE.is("38 far", x.signs(0, 1, Integer.MAX_VALUE, 1), -12);
        DUE.is("38 far below", x.signs(0, 1, Integer.MIN_VALUE, 13), -12);
        DUE.is("38 none came", x.count(1), 0);
        DUE.is("38 none of them", x.signs(0, 1, 0, 0), 0);
        DUE.is("38 one", x.signs(0, 1, 0, 1), 1);
    }

    private static void promise38Signs() {
        HollowShire x = new HollowShire();
        x.run(2);
        Due.fill(x, 0, 2, 99, 1, 9, 30, 6, 9, 1, 2, 64, 1, 3, 10, 99, 4, 11);
        DUE.is("38 two of four", x.signs(0, 2, 1, 4), 2);
        DUE.is("38 signs", x.count(1), 2);
        long[] dip = {1, 9, 2, 30, 60, 200, 10};
        long[] crack = {3, 10, 2, 99, 49, 200, 5};
        for (int w = 0; w < 7; w++) DUE.is("38 the first", x.signTold(0, w, 2), dip[w]);
        for (int w = 0; w < 7; w++) DUE.is("38 the second", x.signTold(1, w, 2), crack[w]);
        DUE.is("38 outside", x.signs(0, 2, 1, 5), -12);
        DUE.is("38 what stood ahead came", x.count(1), 4);
        x.sheet(1, 0, 39);
        DUE.is("38 thirteen", x.signs(1, 0, 0, 13), 13);
        DUE.is("38 thirteen again, one after 30 is none", x.signs(1, 0, 0, 13), 13);
        DUE.is("38 30 at most", x.signs(1, 0, 0, 13), 0);
        DUE.is("38 signs", x.count(1), 30);
        DUE.is("38 outside when full", x.signs(1, 0, 3, 13), -12);
    }

    private static void promise39Taken() {
        HollowShire x = new HollowShire();
        DUE.is("39 what 3", x.taken(3, 0, 0), -2);
        DUE.is("39 what -1", x.taken(-1, 0, 0), -2);
        DUE.is("39 kind 8", x.taken(0, 0, 8), -2);
        DUE.is("39 kind -1", x.taken(0, 0, -1), -2);
        for (int w = 0; w < 3; w++) DUE.is("39 nothing lies there", x.taken(w, 0, 0), -11);
        for (int k = 0; k < 6; k++) x.sign(k, 10 + k, 1);
        String[] is = {"100000", "110000", "101000", "110100", "101010", "100001"};
        for (int k = 0; k < 6; k++) {
            for (int as = 0; as < 6; as++) {
                DUE.is("39 kind " + k + " for " + as, x.taken(0, k, as), is[k].charAt(as) == '1' ? 10 + k : -13);
            }
            DUE.is("39 no house", x.taken(0, k, 6), -13);
            DUE.is("39 no warning", x.taken(0, k, 7), -13);
        }
        x.house(5, 777, 1);
        x.run(3);
        x.warn(6);
        for (int as = 0; as < 8; as++) {
            DUE.is("39 a house for " + as, x.taken(1, 0, as), as == 6 ? 777 : -13);
            DUE.is("39 a warning for " + as, x.taken(2, 0, as), as == 7 ? 3 : -13);
        }
        DUE.is("39 sign 6", x.taken(0, 6, 0), -11);
        DUE.is("39 sign -1", x.taken(0, -1, 0), -11);
        DUE.is("39 house -1", x.taken(1, -1, 6), -11);
        DUE.is("39 warning -1", x.taken(2, -1, 7), -11);
        DUE.is("39 house 1", x.taken(1, 1, 6), -11);
        DUE.is("39 warning 1", x.taken(2, 1, 7), -11);
        DUE.is("39 far", x.taken(2, Integer.MIN_VALUE, 7), -11);
    }
}
