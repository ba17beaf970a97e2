import java.util.function.Supplier;

/** Each sentence of Terms 2 and of promises 9 to 15, at its edges. */
public final class EdgesOfSignsTest {
    private static final Due DUE = new Due();
    private static final String TWO = "Terms 2";
    private static final int SIGN = 0, DIP = 1, LOOK = 2, CRACK = 3, WEIGH = 4, OLD = 5;
    private static final int LEAST = 4, MOST = 5, TRUST = 6;

    public static void main(String[] args) {
        signs();
        mended();
        kindSign();
        kindDip();
        kindLook();
        kindCrack();
        kindWeigh();
        kindOld();
        kindsAbove();
        spans();
        lostWaters();
        fitsOfCells();
        fitsInSpans();
        fitsByLostWaters();
        bestFits();
        rivals();
        promise9();
        promise10();
        promise11();
        promise12();
        promise13();
        promise14();
        promise14Refusals();
        promise15();
        DUE.end("EdgesOfSignsTest");
    }

    private static void signs() {
        DUE.says(TWO, "SIGNS are numbered from 0 on, 30 at most: of a KIND, in a CELL, with a VALUE (0 .. 99), told in a MONTH;");
        HollowShire x = new HollowShire();
        DUE.is("none at first", x.signTold(0, 0, 0), -1);
        for (int k = 0; k < 30; k++) {
            DUE.is("number", x.sign(k % 6, 63 - k, k % 2 == 0 ? 0 : 99), k);
            long[] told = {k % 6, 63 - k, k, k % 2 == 0 ? 0 : 99};
            for (int w = 0; w < 4; w++) DUE.is("sign " + k + " what " + w, x.signTold(k, w, k), told[w]);
            x.run(1);
        }
        DUE.is("the 31st", x.sign(0, 0, 0), -4);
        DUE.is("there are 30", x.count(1), 30);
        DUE.is("value 100", new HollowShire().sign(0, 0, 100), -2);
        DUE.is("value -1", new HollowShire().sign(0, 0, -1), -2);
    }

    private static void mended() {
        DUE.says(TWO, "MENDED once to a VALUE, told in a MONTH: KNOWN from then on.");
        HollowShire x = new HollowShire();
        x.run(1);
        x.sign(LOOK, 9, 50);
        x.run(3);
        x.mend(0, 99);
        x.run(2);
        long[] values = {50, 50, 50, 50, 99, 99, 99};
        for (int m = 0; m < 7; m++) {
            DUE.is("value as known in " + m, x.signTold(0, 3, m), values[m]);
            DUE.is("least as known in " + m, x.signTold(0, LEAST, m), values[m] - 15);
            DUE.is("most as known in " + m, x.signTold(0, MOST, m), values[m] + 15);
            DUE.is("span as known in " + m, x.span(9, m, 0), m < 1 ? 0 : values[m] - 15);
        }
        DUE.is("once", x.mend(0, 98), -3);
        DUE.is("as mended first", x.signTold(0, 3, 6), 99);
        HollowShire zero = new HollowShire();
        zero.sign(DIP, 9, 50);
        DUE.is("in month 0, to 0", zero.mend(0, 0), 50);
        DUE.is("known in month 0", zero.signTold(0, 3, 0), 0);
        DUE.is("once", zero.mend(0, 0), -3);
    }

    /** LEAST, MOST and TRUST by a kind and a value, also as the span of the cell. */
    private static void says(int kind, int v, int least, int most, int trust) {
        HollowShire x = new HollowShire();
        x.sign(kind, 9, v);
        DUE.is("least by " + v, x.signTold(0, LEAST, 0), least);
        DUE.is("most by " + v, x.signTold(0, MOST, 0), most);
        DUE.is("trust", x.signTold(0, TRUST, 0), trust);
        DUE.is("span's least by " + v, x.span(9, 0, 0), least);
        DUE.is("span's most by " + v, x.span(9, 0, 1), most);
        DUE.is("trusted least by " + v, x.span(9, 0, 2), trust < 8 ? 0 : least);
        DUE.is("trusted most by " + v, x.span(9, 0, 3), trust < 8 ? 200 : most);
    }

    private static void kindSign() {
        DUE.says(TWO, "KINDS: 0 SIGN: LEAST 1, if v is above 0, else 0; MOST 200; TRUST 10.");
        says(SIGN, 0, 0, 200, 10);
        says(SIGN, 1, 1, 200, 10);
        says(SIGN, 2, 1, 200, 10);
        says(SIGN, 99, 1, 200, 10);
    }

    private static void kindDip() {
        DUE.says(TWO, "1 DIP (a SIGN): LEAST 2 v.");
        says(DIP, 0, 0, 200, 10);
        says(DIP, 1, 2, 200, 10);
        says(DIP, 99, 198, 200, 10);
    }

    private static void kindLook() {
        DUE.says(TWO, "2 LOOK (a SIGN): LEAST v - 15, 0 at least; MOST v + 15; TRUST 2 less.");
        says(LOOK, 0, 0, 15, 8);
        says(LOOK, 14, 0, 29, 8);
        says(LOOK, 15, 0, 30, 8);
        says(LOOK, 16, 1, 31, 8);
        says(LOOK, 99, 84, 114, 8);
    }

    private static void kindCrack() {
        DUE.says(TWO, "3 CRACK (a DIP): LEAST a fourth of a DIP's (cut), TRUST half.");
        says(CRACK, 0, 0, 200, 5);
        says(CRACK, 1, 0, 200, 5);
        says(CRACK, 2, 1, 200, 5);
        says(CRACK, 3, 1, 200, 5);
        says(CRACK, 4, 2, 200, 5);
        says(CRACK, 98, 49, 200, 5);
        says(CRACK, 99, 49, 200, 5);
    }

    private static void kindWeigh() {
        DUE.says(TWO, "4 WEIGH (a LOOK): LEAST half of a LOOK's (cut), MOST 25 more.");
        says(WEIGH, 0, 0, 40, 8);
        says(WEIGH, 15, 0, 55, 8);
        says(WEIGH, 16, 0, 56, 8);
        says(WEIGH, 17, 1, 57, 8);
        says(WEIGH, 18, 1, 58, 8);
        says(WEIGH, 99, 42, 139, 8);
    }

    private static void kindOld() {
        DUE.says(TWO, "5 OLD (a SIGN): LEAST ten times, TRUST 3.");
        says(OLD, 0, 0, 200, 3);
        says(OLD, 1, 10, 200, 3);
        says(OLD, 99, 10, 200, 3);
    }

    private static void kindsAbove() {
        DUE.says(TWO, "By its VALUE v it says that the HOLLOW of the CELL is LEAST .. MOST; TRUST.");
        HollowShire x = new HollowShire();
        x.sign(LOOK, 9, 40);
        DUE.is("of its own cell alone", x.span(10, 0, 0), 0);
        DUE.is("its own cell", x.span(9, 0, 0), 25);
        DUE.says(TWO, "(Whatever isn't told is as of the KIND above.)");
        x.sign(DIP, 9, 40);
        x.sign(CRACK, 9, 40);
        x.sign(OLD, 9, 40);
        x.sign(WEIGH, 9, 40);
        for (int k = 1; k < 4; k++) DUE.is("MOST as of a SIGN, kind " + x.signTold(k, 0, 0), x.signTold(k, MOST, 0), 200);
        DUE.is("TRUST of a DIP as of a SIGN", x.signTold(1, TRUST, 0), 10);
        DUE.is("TRUST of a WEIGH as of a LOOK", x.signTold(4, TRUST, 0), 8);
    }

    private static void spans() {
        DUE.says(TWO, "SPAN of a CELL as KNOWN in a MONTH: of all SIGNS of it that were told by then: the greatest LEAST "
            + "(0, if there is none), the least MOST (200).");
        HollowShire x = new HollowShire();
        DUE.is("no sign: least", x.span(63, 0, 0), 0);
        DUE.is("no sign: most", x.span(63, 0, 1), 200);
        x.run(2);
        x.sign(LOOK, 63, 50);
        x.sign(LOOK, 62, 99);
        DUE.is("a month ahead: least", x.span(63, 1, 0), 0);
        DUE.is("a month ahead: most", x.span(63, 1, 1), 200);
        DUE.is("in its month: least", x.span(63, 2, 0), 35);
        DUE.is("in its month: most", x.span(63, 2, 1), 65);
        x.run(1);
        x.sign(LOOK, 63, 40);
        x.sign(DIP, 63, 18);
        x.sign(LOOK, 63, 48);
        DUE.is("the greatest least, first", x.span(63, 3, 0), 36);
        DUE.is("the least most, in the middle", x.span(63, 3, 1), 55);
        DUE.is("as known ahead of these", x.span(63, 2, 0), 35);
        DUE.is("and most", x.span(63, 2, 1), 65);
    }

    private static void lostWaters() {
        DUE.says(TWO, "LOST waters are numbered from 0 on, 8 at most: at a CELL so much (1 .. 400) in a MONTH: "
            + "HOLLOWS of CELLS NEAR it are so much together, at least.");
        HollowShire x = new HollowShire();
        for (int i = 0; i < 8; i++) DUE.is("number", x.lost(i, i % 2 == 0 ? 1 : 400), i);
        DUE.is("the ninth", x.lost(0, 1), -4);
        DUE.is("there are 8", x.count(10), 8);
        DUE.is("0", new HollowShire().lost(0, 0), -2);
        DUE.is("401", new HollowShire().lost(0, 401), -2);
        int[][] tries = {{1, 1, 10}, {10, 1, 10}, {11, 1, 25}, {25, 1, 25}, {26, 1, 50}, {50, 1, 50}, {51, 1, 100}, {100, 1, 100}, {101, -3, -3}};
        for (int[] t : tries) {
            HollowShire s = new HollowShire();
            s.lost(0, t[0]);
            Due.fill(s, 0, 2, 0);
            DUE.is("fit by " + t[0], s.fit(0, 0), t[1]);
            DUE.is("size by " + t[0], s.fitTold(0, 0), t[2]);
        }
    }

    private static int fitOf(HollowShire x, int... cells) {
        Due.fill(x, 0, 2, cells);
        return x.fit(0, x.count(0));
    }

    private static void fitsOfCells() {
        DUE.says(TWO, "A FIT of 1 to 5 unlike CELLS as KNOWN in a MONTH:");
        HollowShire x = new HollowShire();
        for (int k = 0; k < 6; k++) x.sign(SIGN, k, 1);
        DUE.is("none", fitOf(x), -2);
        DUE.is("one", fitOf(x, 0), 1);
        DUE.is("five", fitOf(x, 4, 3, 2, 1, 0), 5);
        DUE.is("six", fitOf(x, 0, 1, 2, 3, 4, 5), -2);
        DUE.is("like ones, first and last", fitOf(x, 0, 1, 2, 3, 0), -2);
        DUE.is("like ones beside", fitOf(x, 0, 0), -2);
        DUE.is("the first and the last cell", fitOf(x, 0, 63), 1);
        x.run(1);
        x.sign(SIGN, 9, 1);
        Due.fill(x, 0, 2, 9);
        DUE.is("as known in its month", x.fit(0, 1), 1);
        DUE.is("as known ahead of it", x.fit(0, 0), 0);
    }

    private static void fitsInSpans() {
        DUE.says(TWO, "sizes of 0, 10, 25, 50, 100, each in the SPAN of its CELL,");
        int[][] least = {{0, 0}, {1, 10}, {5, 10}, {6, 25}, {12, 25}, {13, 50}, {25, 50}, {26, 100}, {50, 100}, {51, -3}};
        for (int[] t : least) {
            HollowShire x = new HollowShire();
            x.sign(DIP, 9, t[0]);
            DUE.is("fit, least " + 2 * t[0], fitOf(x, 9), t[1] < 0 ? -3 : t[1] > 0 ? 1 : 0);
            DUE.is("size, least " + 2 * t[0], x.fitTold(0, 0), t[1]);
        }
        // So much as the water asks is there only if MOST, the value and 15, reaches the size.
        int[][] most = {{9, 10, 10}, {9, 11, -3}, {10, 11, 25}, {34, 25, 25}, {34, 26, -3}, {35, 26, 50}, {84, 51, -3}, {85, 51, 100}};
        for (int[] t : most) {
            HollowShire x = new HollowShire();
            x.sign(LOOK, 9, t[0]);
            x.lost(9, t[1]);
            fitOf(x, 9);
            DUE.is("size by " + t[1] + ", most " + (t[0] + 15), x.fitTold(0, 0), t[2]);
        }
        HollowShire x = new HollowShire();
        x.sign(LOOK, 9, 30);
        x.sign(DIP, 9, 30);
        DUE.is("a span of 60 .. 45", fitOf(x, 9), -3);
        DUE.is("each: one of two has none", fitOf(x, 10, 9), -3);
    }

    private static void fitsByLostWaters() {
        DUE.says(TWO, "so that for each LOST water told by then that has any of these CELLS NEAR it these come to as much.");
        HollowShire x = new HollowShire();
        x.run(1);
        x.lost(9, 200);
        x.run(1);
        Due.fill(x, 0, 2, 9, 10);
        DUE.is("200 of two", x.fit(0, 2), 2);
        DUE.is("as known in its month", x.fit(0, 1), 2);
        DUE.is("as known ahead of it", x.fit(0, 0), 0);
        DUE.is("200 of one", fitOf(x, 9), -3);
        DUE.is("200 of one and a far one", fitOf(x, 9, 11), -3);
        DUE.is("of far ones alone", fitOf(x, 11, 18, 0), 0);
        DUE.is("of three", fitOf(x, 9, 10, 1), 2);
        x.lost(9, 201);
        DUE.is("201 of two", fitOf(x, 9, 10), -3);
        DUE.is("201 of three", fitOf(x, 9, 10, 1), 3);
        long[] sizes = {10, 100, 100};
        for (int i = 0; i < 3; i++) DUE.is("its size " + i, x.fitTold(i, 0), sizes[i]);
        HollowShire four = new HollowShire();
        four.lost(9, 400);
        DUE.is("400 of five", fitOf(four, 9, 10, 17, 8, 1), 4);
        DUE.is("400 of four", fitOf(four, 9, 10, 17, 8), 4);
        DUE.is("400 of three", fitOf(four, 9, 10, 17), -3);
        HollowShire far = new HollowShire();
        far.lost(0, 10);
        DUE.is("lost at cell 0, far from 63", fitOf(far, 63), 0);
        far.lost(27, 101);
        DUE.is("what far cells have does not count", fitOf(far, 27, 40, 50, 60, 63), -3);
        HollowShire eight = new HollowShire();
        for (int i = 0; i < 8; i++) eight.lost(9, i < 7 ? 1 : 26);
        DUE.is("the last of eight", fitOf(eight, 9), 1);
        DUE.is("its size", eight.fitTold(0, 0), 50);
        HollowShire each = new HollowShire();
        each.lost(8, 10);
        each.lost(10, 25);
        each.lost(63, 400);
        DUE.is("each by itself: 8 and 10, not 63", fitOf(each, 8, 10), 2);
        DUE.is("10 by the first", each.fitTold(0, 0), 10);
        DUE.is("25 by the second", each.fitTold(1, 0), 25);
        DUE.is("both by cell 9", fitOf(each, 9), 1);
        DUE.is("the greater one", each.fitTold(0, 0), 25);
    }

    private static void best(HollowShire x, long... sizes) {
        for (int i = 0; i < sizes.length; i++) DUE.is("best size " + i, x.fitTold(i, 0), sizes[i]);
    }

    private static void bestFits() {
        DUE.says(TWO, "BEST: the fewest sizes above 0; of like ones the least together; of like ones the first by the CELLS' order "
            + "(the lesser size first).");
        HollowShire x = new HollowShire();
        x.lost(9, 60);
        DUE.is("the fewest: 100, not 10 and 50", fitOf(x, 10, 9), 1);
        best(x, 0, 100);
        x.sign(WEIGH, 9, 10);
        DUE.is("the fewest, which come behind all others", fitOf(x, 10, 9), 1);
        best(x, 100, 0);
        HollowShire least = new HollowShire();
        least.lost(9, 26);
        DUE.is("the least together: 50, not 100", fitOf(least, 10, 9), 1);
        best(least, 0, 50);
        least.sign(LOOK, 9, 10);
        least.sign(LOOK, 10, 10);
        DUE.is("the least together: 35, not 50", fitOf(least, 10, 9), 2);
        best(least, 10, 25);
        DUE.is("the first by the sheet's order", fitOf(least, 9, 10), 2);
        best(least, 10, 25);
        HollowShire later = new HollowShire();
        later.lost(9, 60);
        later.sign(WEIGH, 9, 10);
        later.sign(LOOK, 10, 35);
        // Cell 10 has 25 or 50: 25 and 50 stand ahead of 50 and 10, which are less together.
        DUE.is("the least, which come behind others", fitOf(later, 10, 9), 2);
        best(later, 50, 10);
        HollowShire three = new HollowShire();
        three.lost(9, 110);
        DUE.is("two of three", fitOf(three, 17, 10, 9), 2);
        best(three, 0, 10, 100);
    }

    private static void rivals() {
        DUE.says(TWO, "RIVALS: how many FITS have as few and as little; SURE of a CELL: the least and the greatest size that it has in these.");
        HollowShire x = new HollowShire();
        x.lost(9, 110);
        fitOf(x, 17, 10, 9, 40);
        // 10 and 100 in two of three cells, in either order; nothing in cell 40.
        DUE.is("rivals", x.fitTold(0, 3), 6);
        for (int i = 0; i < 3; i++) {
            DUE.is("rivals by " + i, x.fitTold(i, 3), 6);
            DUE.is("least of " + i, x.fitTold(i, 1), 0);
            DUE.is("greatest of " + i, x.fitTold(i, 2), 100);
        }
        DUE.is("sure of cell 40: least", x.fitTold(3, 1), 0);
        DUE.is("sure of cell 40: greatest", x.fitTold(3, 2), 0);
        x.sign(DIP, 17, 50);
        fitOf(x, 17, 10, 9, 40);
        DUE.is("cell 17 has 100", x.fitTold(0, 3), 2);
        long[][] sure = {{100, 100}, {0, 10}, {0, 10}, {0, 0}};
        for (int i = 0; i < 4; i++) for (int w = 1; w < 3; w++) DUE.is("sure of " + i, x.fitTold(i, w), sure[i][w - 1]);
        HollowShire one = new HollowShire();
        fitOf(one, 9);
        DUE.is("one alone, of 0: others have as few, but none as little", one.fitTold(0, 3), 1);
        one.sign(SIGN, 9, 1);
        fitOf(one, 9);
        DUE.is("25 is not as little as 10", one.fitTold(0, 3), 1);
        DUE.is("sure of 10", one.fitTold(0, 2), 10);
    }

    private static void promise9() {
        DUE.says("Promise 9", "A SIGN: its number.");
        HollowShire x = Due.withFallen(63);
        DUE.is("the first", x.sign(5, 0, 99), 0);
        DUE.is("the same again, in a cell that fell", x.sign(0, 63, 0), 1);
        DUE.says("Promise 9", "NONE: CELL; BAD: KIND, VALUE; FULL.");
        new Edges(DUE, Shires.MIXED, "sign", (s, a) -> s.sign(a[0], a[1], a[2]))
            .arg(1, 0, 5, -2).arg(41, 0, 63, -1).arg(5, 0, 99, -2).order(-1, -2).check();
        Twins.refused(DUE, "full", Shires.FULL, s -> s.sign(0, 0, 0), -4);
        Twins.refused(DUE, "full, and no such kind", Shires.FULL, s -> s.sign(6, 0, 0), -2);
        Twins.refused(DUE, "full, and no cell", Shires.FULL, s -> s.sign(6, 64, 0), -1);
    }

    private static void promise10() {
        DUE.says("Promise 10", "A SIGN is MENDED to a VALUE (the same, too): its VALUE as it was told.");
        HollowShire x = new HollowShire();
        for (int k = 0; k < 3; k++) x.sign(DIP, 9 + k, 10 * k);
        DUE.is("to 99", x.mend(0, 99), 0);
        DUE.is("to the same", x.mend(1, 10), 10);
        DUE.is("to 0", x.mend(2, 0), 20);
        DUE.is("the value now", x.signTold(0, 3, 0), 99);
        DUE.is("the same", x.signTold(1, 3, 0), 10);
        DUE.is("0", x.signTold(2, 3, 0), 0);
        DUE.is("there are no more signs", x.count(1), 3);
        DUE.says("Promise 10", "NONE; BAD; STATE: it was.");
        new Edges(DUE, Shires.MIXED, "mend", (s, a) -> s.mend(a[0], a[1])).arg(1, 0, 3, -1).arg(5, 0, 99, -2).order(-1, -2).check();
        Twins.refused(DUE, "it was", Shires.MIXED, s -> s.mend(0, 45), -3);
        Twins.refused(DUE, "it was, and no value", Shires.MIXED, s -> s.mend(0, 100), -2);
        Twins.refused(DUE, "there are no signs", Shires.FRESH, s -> s.mend(0, 0), -1);
        DUE.is("mended to the same, it was", x.mend(1, 11), -3);
        DUE.is("the last of 30", Shires.FULL.get().mend(29, 1), 87);
        Twins.refused(DUE, "behind 30", Shires.FULL, s -> s.mend(30, 1), -1);
    }

    private static void promise11() {
        DUE.says("Promise 11", "Of a SIGN, as KNOWN in a MONTH (0 .. this one), what 0 KIND, 1 CELL, 2 MONTH, 3 VALUE, 4 LEAST, 5 MOST, "
            + "6 TRUST (also ahead of its MONTH).");
        HollowShire x = new HollowShire();
        x.run(2);
        x.sign(WEIGH, 63, 35);
        x.run(2);
        x.mend(0, 55);
        long[] told = {4, 63, 2, 35, 10, 75, 8}, mended = {4, 63, 2, 55, 20, 95, 8};
        for (int w = 0; w < 7; w++) {
            for (int m = 0; m < 4; m++) DUE.is("what " + w + " as known in " + m, x.signTold(0, w, m), told[w]);
            DUE.is("what " + w + " as mended", x.signTold(0, w, 4), mended[w]);
        }
        DUE.says("Promise 11", "NONE; BAD.");
        new Edges(DUE, Shires.MIXED, "signTold", (s, a) -> s.signTold(a[0], a[1], a[2]))
            .arg(1, 0, 3, -1).arg(3, 0, 6, -2).arg(2, 0, 3, -2).order(-1, -2).check();
        Twins.refused(DUE, "there are no signs", Shires.FRESH, s -> s.signTold(0, 0, 0), -1);
        new Edges(DUE, Shires.FULL, "signTold", (s, a) -> s.signTold(a[0], 0, 0)).arg(1, 0, 29, -1).check();
        Twins.unchanged(DUE, "looking", Shires.MIXED, s -> s.signTold(1, 3, 0));
    }

    private static void promise12() {
        DUE.says("Promise 12", "SPAN of a CELL as KNOWN, what 0 LEAST, 1 MOST;");
        HollowShire x = new HollowShire();
        x.sign(DIP, 9, 35);
        x.sign(LOOK, 9, 55);
        DUE.is("least is most", x.span(9, 0, 0), 70);
        DUE.is("most is least", x.span(9, 0, 1), 70);
        DUE.says("Promise 12", "2, 3: likewise, by SIGNS of TRUST 8 or more alone.");
        HollowShire t = new HollowShire();
        t.sign(OLD, 9, 1);
        t.sign(CRACK, 9, 99);
        DUE.is("none of trust 3 and 5", t.span(9, 0, 2), 0);
        DUE.is("but else", t.span(9, 0, 0), 49);
        t.sign(WEIGH, 9, 37);
        DUE.is("WEIGH, of 8", t.span(9, 0, 2), 11);
        DUE.is("its most", t.span(9, 0, 3), 77);
        t.sign(LOOK, 9, 27);
        DUE.is("LOOK, of 8", t.span(9, 0, 2), 12);
        DUE.is("its most", t.span(9, 0, 3), 42);
        t.sign(DIP, 9, 7);
        DUE.is("DIP, of 10", t.span(9, 0, 2), 14);
        DUE.is("most stays", t.span(9, 0, 3), 42);
        promise12State(t);
    }

    private static void promise12State(HollowShire t) {
        DUE.says("Promise 12", "NONE; BAD; STATE: LEAST is above MOST.");
        for (int w = 0; w < 2; w++) DUE.is("49 is above 42, what " + w, t.span(9, 0, w), -3);
        HollowShire x = new HollowShire();
        x.sign(DIP, 9, 35);
        x.sign(LOOK, 9, 54);
        for (int w = 0; w < 4; w++) DUE.is("70 is above 69, what " + w, x.span(9, 0, w), -3);
        DUE.is("no other cell's", x.span(10, 0, 0), 0);
        x.run(1);
        x.mend(1, 55);
        DUE.is("mended", x.span(9, 1, 0), 70);
        DUE.is("not yet", x.span(9, 0, 0), -3);
        new Edges(DUE, Shires.MIXED, "span", (s, a) -> s.span(a[0], a[1], a[2]))
            .arg(41, 0, 63, -1).arg(2, 0, 3, -2).arg(1, 0, 3, -2).order(-1, -2).check();
        DUE.is("bad ahead of it", x.span(9, 0, 4), -2);
        Twins.unchanged(DUE, "looking", Shires.MIXED, s -> s.span(9, 0, 0));
    }

    private static void promise13() {
        DUE.says("Promise 13", "A LOST water: its number.");
        HollowShire x = Due.withFallen(63);
        DUE.is("the first", x.lost(0, 400), 0);
        DUE.is("in a cell that fell", x.lost(63, 1), 1);
        DUE.is("the same again", x.lost(63, 1), 2);
        DUE.says("Promise 13", "NONE: CELL; BAD; FULL.");
        new Edges(DUE, Shires.MIXED, "lost", (s, a) -> s.lost(a[0], a[1])).arg(41, 0, 63, -1).arg(5, 1, 400, -2).order(-1, -2).check();
        Twins.refused(DUE, "full", Shires.FULL, s -> s.lost(0, 1), -4);
        Twins.refused(DUE, "full, and nothing", Shires.FULL, s -> s.lost(0, 0), -2);
        Twins.refused(DUE, "full, and no cell", Shires.FULL, s -> s.lost(64, 0), -1);
    }

    private static void promise14() {
        DUE.says("Promise 14", "A FIT of CELLS of a SHEET as KNOWN: how many sizes above 0 the BEST has.");
        HollowShire x = new HollowShire();
        for (int c = 0; c < 5; c++) {
            DUE.is(c + " of five", fitOf(x, 0, 10, 20, 30, 40), c);
            x.sign(SIGN, 10 * c, 1);
        }
        DUE.is("five of five", fitOf(x, 0, 10, 20, 30, 40), 5);
        for (int s = 0; s < 4; s++) {
            Due.fill(x, s, s % 3, 63, 30);
            DUE.is("sheet " + s, x.fit(s, 0), 1);
        }
        DUE.says("Promise 14", "STATE: there is none (that is kept, too).");
        x.sign(DIP, 63, 51);
        DUE.is("102 at least", x.fit(3, 0), -3);
        for (int i = 0; i < 2; i++) for (int w = 0; w < 4; w++) DUE.is("kept", x.fitTold(i, w), -3);
        DUE.is("of two cells", x.fitTold(2, 0), -1);
        DUE.is("a fit of others then", fitOf(x, 10), 1);
        DUE.is("is kept", x.fitTold(0, 0), 10);
        DUE.is("of one cell", x.fitTold(1, 0), -1);
    }

    private static void promise14Refusals() {
        DUE.says("Promise 14", "NONE: SHEET; -11; BAD: its size, known, a number that is no CELL, or is there twice;");
        new Edges(DUE, Shires.MIXED, "fit", (s, a) -> s.fit(a[0], a[1])).arg(0, 0, 3, -1).arg(2, 0, 3, -2).order(-1, -2).check();
        Twins.refused(DUE, "missing", Shires.MIXED, s -> s.fit(2, 0), -11);
        Twins.refused(DUE, "missing, and known 4", Shires.MIXED, s -> s.fit(2, 4), -11);
        int[][] bad = {{}, {0, 1, 2, 3, 4, 5}, new int[40], {64}, {-1}, {5, 64}, {-1, 5}, {9, 10, 9}, {7, 7}, {1, 2, 3, 4, 1},
            {Integer.MAX_VALUE}, {Integer.MIN_VALUE}, {9, 9 + 64}, {1, 65}};
        for (int[] numbers : bad) {
            Supplier<HollowShire> shire = Shires.withSheet(2, numbers);
            Twins.refused(DUE, "fit of " + java.util.Arrays.toString(numbers), shire, s -> s.fit(2, 3), -2);
        }
        Twins.refused(DUE, "a byte of 128", Shires.withSheet(0, 128), s -> s.fit(2, 3), -2);
        DUE.is("five", Shires.withSheet(2, 0, 1, 2, 3, 63).get().fit(2, 3), 2);
        DUE.is("one", Shires.withSheet(2, 63).get().fit(2, 3), 0);
    }

    private static void promise15() {
        DUE.says("Promise 15", "Of the i-th CELL of the FIT that was asked last what 0 its size in the BEST, 1 the least, 2 the greatest (SURE), "
            + "3 RIVALS.");
        HollowShire x = new HollowShire();
        x.lost(9, 60);
        x.sign(WEIGH, 9, 10);
        x.sign(LOOK, 10, 35);
        fitOf(x, 10, 17, 9);
        // Cell 10 has 25 or 50 or more, so 50 and 10 in one of the others is the least: two rivals.
        long[][] told = {{50, 50, 50, 2}, {0, 0, 10, 2}, {10, 0, 10, 2}};
        for (int i = 0; i < 3; i++) for (int w = 0; w < 4; w++) DUE.is("fitTold(" + i + ", " + w + ")", x.fitTold(i, w), told[i][w]);
        x.sign(DIP, 10, 99);
        x.sheet(0, -1, 0);
        DUE.is("as it was asked", x.fitTold(0, 0), 50);
        fitOf(x, 40);
        DUE.is("the last one", x.fitTold(0, 0), 0);
        DUE.is("has one cell", x.fitTold(1, 0), -1);
        DUE.says("Promise 15", "NONE: i; BAD: what; STATE: there was none.");
        new Edges(DUE, Shires.MIXED, "fitTold", (s, a) -> s.fitTold(a[0], a[1])).arg(1, 0, 2, -1).arg(0, 0, 3, -2).order(-1, -2).check();
        Twins.refused(DUE, "no fit was asked", Shires.FRESH, s -> s.fitTold(0, 0), -1);
        Twins.refused(DUE, "no fit, and no what", Shires.FRESH, s -> s.fitTold(0, 4), -1);
        Supplier<HollowShire> none = () -> {
            HollowShire s = Shires.withSheet(2, 9, 10).get();
            s.sign(DIP, 10, 99);
            s.fit(2, 3);
            return s;
        };
        for (int i = 0; i < 2; i++) for (int w = 0; w < 4; w++) DUE.is("there was none", none.get().fitTold(i, w), -3);
        Twins.refused(DUE, "there was none", none, s -> s.fitTold(1, 3), -3);
        Twins.refused(DUE, "there was none, and what 4", none, s -> s.fitTold(1, 4), -2);
        Twins.refused(DUE, "there was none, and what -1", none, s -> s.fitTold(0, -1), -2);
        Twins.refused(DUE, "there was none, of two cells", none, s -> s.fitTold(2, 4), -1);
    }
}
