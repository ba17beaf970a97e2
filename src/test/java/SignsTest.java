/** Promises 9 to 15: signs, spans, lost waters and fits. */
public final class SignsTest {
    private static final Due DUE = new Due();

    public static void main(String[] args) {
        promise9Sign();
        promise10Mend();
        promise11SignTold();
        promise12Span();
        promise13Lost();
        promise14FitRefuses();
        promise14Fit();
        promise14FitByLostWaters();
        promise14FitByEightLostWaters();
        promise15FitTold();
        DUE.end("SignsTest");
    }

    private static void promise9Sign() {
        HollowShire x = Due.withFallen(7);
        DUE.is("9 no cell", x.sign(6, 64, 100), -1);
        DUE.is("9 no cell below", x.sign(0, -1, 0), -1);
        DUE.is("9 kind 6", x.sign(6, 0, 0), -2);
        DUE.is("9 kind -1", x.sign(-1, 0, 0), -2);
        DUE.is("9 value 100", x.sign(0, 0, 100), -2);
        DUE.is("9 value -1", x.sign(0, 0, -1), -2);
        for (int k = 0; k < 30; k++) DUE.is("9 number", x.sign(k % 6, 7, k % 2 * 99), k);
        DUE.is("9 full", x.sign(0, 0, 0), -4);
        DUE.is("9 bad ahead of full", x.sign(6, 0, 0), -2);
        DUE.is("9 signs", x.count(1), 30);
    }

    private static void promise10Mend() {
        HollowShire x = new HollowShire();
        DUE.is("10 none", x.mend(0, 100), -1);
        x.sign(1, 9, 12);
        x.sign(1, 9, 13);
        DUE.is("10 below", x.mend(-1, 0), -1);
        DUE.is("10 100", x.mend(0, 100), -2);
        DUE.is("10 -1", x.mend(0, -1), -2);
        x.run(5);
        DUE.is("10 the same", x.mend(0, 12), 12);
        DUE.is("10 it was", x.mend(0, 20), -3);
        DUE.is("10 bad ahead", x.mend(0, 100), -2);
        DUE.is("10 as told", x.mend(1, 99), 13);
        DUE.is("10 once", x.mend(1, 13), -3);
        DUE.is("10 ahead of it", x.signTold(1, 3, 4), 13);
        DUE.is("10 from then on", x.signTold(1, 3, 5), 99);
        HollowShire first = new HollowShire();
        first.sign(1, 9, 12);
        first.mend(0, 20);
        DUE.is("10 in month 0", first.signTold(0, 3, 0), 20);
        DUE.is("10 once in month 0", first.mend(0, 20), -3);
    }

    private static void promise11SignTold() {
        HollowShire x = new HollowShire();
        DUE.is("11 none", x.signTold(0, 9, 9), -1);
        // KIND, VALUE, LEAST, MOST, TRUST
        int[][] all = {{0, 0, 0, 200, 10}, {0, 1, 1, 200, 10}, {0, 99, 1, 200, 10}, {1, 0, 0, 200, 10}, {1, 99, 198, 200, 10},
            {2, 0, 0, 15, 8}, {2, 15, 0, 30, 8}, {2, 16, 1, 31, 8}, {2, 99, 84, 114, 8}, {3, 1, 0, 200, 5}, {3, 2, 1, 200, 5},
            {3, 99, 49, 200, 5}, {4, 0, 0, 40, 8}, {4, 16, 0, 56, 8}, {4, 17, 1, 57, 8}, {4, 99, 42, 139, 8}, {5, 0, 0, 200, 3},
            {5, 1, 10, 200, 3}, {5, 99, 10, 200, 3}};
        x.run(3);
        for (int k = 0; k < all.length; k++) {
            int[] s = all[k];
            DUE.is("11 sign", x.sign(s[0], k, s[1]), k);
            long[] told = {s[0], k, 3, s[1], s[2], s[3], s[4]};
            for (int w = 0; w < 7; w++) DUE.is("11 of sign " + k + " what " + w, x.signTold(k, w, 3), told[w]);
            DUE.is("11 also ahead of its month", x.signTold(k, 4, 0), s[2]);
        }
        x.run(1);
        x.mend(8, 20);
        DUE.is("11 mended: least", x.signTold(8, 4, 4), 5);
        DUE.is("11 mended: most", x.signTold(8, 5, 4), 35);
        DUE.is("11 mended: the month it was told", x.signTold(8, 2, 4), 3);
        DUE.is("11 not yet mended: most", x.signTold(8, 5, 3), 114);
        DUE.is("11 what 7", x.signTold(0, 7, 0), -2);
        DUE.is("11 what -1", x.signTold(0, -1, 0), -2);
        DUE.is("11 known 5", x.signTold(0, 0, 5), -2);
        DUE.is("11 known -1", x.signTold(0, 0, -1), -2);
        DUE.is("11 none below", x.signTold(-1, 0, 0), -1);
    }

    private static void promise12Span() {
        HollowShire x = new HollowShire();
        DUE.is("12 no cell", x.span(64, 9, 9), -1);
        DUE.is("12 what 4", x.span(0, 0, 4), -2);
        DUE.is("12 what -1", x.span(0, 0, -1), -2);
        DUE.is("12 known 1", x.span(0, 1, 0), -2);
        DUE.is("12 known -1", x.span(0, -1, 0), -2);
        for (int w = 0; w < 4; w++) DUE.is("12 no signs", x.span(9, 0, w), w % 2 * 200);
        x.sign(2, 9, 60);
        x.sign(1, 9, 10);
        x.run(1);
        x.sign(4, 9, 30);
        x.sign(5, 9, 3);
        x.sign(3, 9, 99);
        x.sign(1, 10, 99);
        // LOOK 45 .. 75, DIP 20, WEIGH 7 .. 70, OLD 10, CRACK 49
        DUE.is("12 least then", x.span(9, 0, 0), 45);
        DUE.is("12 most then", x.span(9, 0, 1), 75);
        DUE.is("12 least", x.span(9, 1, 0), 49);
        DUE.is("12 most", x.span(9, 1, 1), 70);
        DUE.is("12 trusted least", x.span(9, 1, 2), 45);
        DUE.is("12 trusted most", x.span(9, 1, 3), 70);
        x.run(1);
        x.mend(3, 0);
        x.mend(4, 0);
        x.mend(0, 10);
        DUE.is("12 mended least", x.span(9, 2, 0), 20);
        DUE.is("12 mended most", x.span(9, 2, 1), 25);
        DUE.is("12 not yet mended", x.span(9, 1, 0), 49);
        x.sign(3, 9, 60);
        DUE.is("12 state least", x.span(9, 2, 0), -3);
        DUE.is("12 state most", x.span(9, 2, 1), -3);
        DUE.is("12 the trusted are in order", x.span(9, 2, 2), 20);
        DUE.is("12 the trusted most", x.span(9, 2, 3), 25);
        x.sign(1, 9, 13);
        DUE.is("12 the trusted too", x.span(9, 2, 2), -3);
        x.sign(2, 20, 55);
        x.sign(1, 20, 35);
        DUE.is("12 least is most", x.span(20, 2, 0), 70);
        DUE.is("12 most is least", x.span(20, 2, 1), 70);
    }

    private static void promise13Lost() {
        HollowShire x = new HollowShire();
        DUE.is("13 no cell", x.lost(64, 0), -1);
        DUE.is("13 no cell below", x.lost(-1, 1), -1);
        DUE.is("13 0", x.lost(0, 0), -2);
        DUE.is("13 401", x.lost(0, 401), -2);
        for (int i = 0; i < 8; i++) DUE.is("13 number", x.lost(i * 9, i % 2 == 0 ? 1 : 400), i);
        DUE.is("13 full", x.lost(0, 1), -4);
        DUE.is("13 bad ahead of full", x.lost(0, 0), -2);
        DUE.is("13 lost", x.count(10), 8);
    }

    private static void promise14FitRefuses() {
        HollowShire x = new HollowShire();
        DUE.is("14 no sheet", x.fit(4, 9), -1);
        DUE.is("14 no sheet below", x.fit(-1, 0), -1);
        DUE.is("14 missing", x.fit(0, 9), -11);
        x.sheet(0, 2, 0);
        DUE.is("14 none", x.fit(0, 0), -2);
        Due.fill(x, 0, 2, 1, 2, 3, 4, 5, 6);
        DUE.is("14 six", x.fit(0, 0), -2);
        Due.fill(x, 0, 2, 1, 2, 1);
        DUE.is("14 twice", x.fit(0, 0), -2);
        Due.fill(x, 0, 2, 64);
        DUE.is("14 no cell", x.fit(0, 0), -2);
        Due.fill(x, 0, 2, -1);
        DUE.is("14 no cell below", x.fit(0, 0), -2);
        Due.fill(x, 0, 2, 1);
        DUE.is("14 known 1", x.fit(0, 1), -2);
        DUE.is("14 known -1", x.fit(0, -1), -2);
        DUE.is("14 refusals keep no fit", x.fitTold(0, 0), -1);
        DUE.is("14 one", x.fit(0, 0), 0);
    }

    private static void promise14Fit() {
        HollowShire x = new HollowShire();
        Due.fill(x, 0, 2, 9, 30, 50, 60, 3);
        DUE.is("14 nothing is told", x.fit(0, 0), 0);
        DUE.is("14 one rival", x.fitTold(0, 3), 1);
        x.sign(1, 30, 5);
        x.sign(1, 50, 6);
        x.sign(0, 9, 7);
        DUE.is("14 three", x.fit(0, 0), 3);
        int[] best = {10, 10, 25, 0, 0};
        for (int i = 0; i < 5; i++) DUE.is("14 best " + i, x.fitTold(i, 0), best[i]);
        x.sign(2, 60, 75);
        DUE.is("14 no size is 60 .. 90", x.fit(0, 0), -3);
        DUE.is("14 that is kept", x.fitTold(4, 2), -3);
        x.run(1);
        x.mend(3, 85);
        DUE.is("14 70 .. 100", x.fit(0, 1), 4);
        DUE.is("14 at most", x.fitTold(3, 0), 100);
        DUE.is("14 as known ahead", x.fit(0, 0), -3);
        x.sign(2, 60, 40);
        DUE.is("14 a span that is none", x.fit(0, 1), -3);
    }

    private static void promise14FitByLostWaters() {
        HollowShire x = new HollowShire();
        Due.fill(x, 0, 2, 10, 9, 40);
        x.lost(60, 400);
        DUE.is("14 none of them near", x.fit(0, 0), 0);
        x.run(1);
        x.lost(9, 110);
        DUE.is("14 told later", x.fit(0, 0), 0);
        DUE.is("14 two together", x.fit(0, 1), 2);
        // 10 and 100, or 100 and 10: the first cell of the sheet has the lesser size.
        int[][] told = {{10, 10, 100, 2}, {100, 10, 100, 2}, {0, 0, 0, 2}};
        for (int i = 0; i < 3; i++) for (int w = 0; w < 4; w++) DUE.is("14 fitTold(" + i + ", " + w + ")", x.fitTold(i, w), told[i][w]);
        x.sign(2, 9, 10);
        DUE.is("14 one of 25 at most", x.fit(0, 1), 2);
        DUE.is("14 the other bears all", x.fitTold(0, 0), 100);
        DUE.is("14 it adds the least", x.fitTold(1, 0), 10);
        x.sign(2, 10, 80);
        DUE.is("14 none of 65 .. 95", x.fit(0, 1), -3);
        x.mend(1, 85);
        DUE.is("14 100 at the end of 70 .. 100", x.fit(0, 1), 2);
        x.lost(8, 26);
        DUE.is("14 near 8 there is only 9", x.fit(0, 1), -3);
        HollowShire near = new HollowShire();
        Due.fill(near, 1, 0, 27);
        near.lost(26, 10);
        near.lost(28, 11);
        near.lost(19, 26);
        DUE.is("14 near on sides", near.fit(1, 0), 1);
        DUE.is("14 the most of three", near.fitTold(0, 0), 50);
        near.lost(35, 51);
        near.fit(1, 0);
        DUE.is("14 the fourth side", near.fitTold(0, 0), 100);
        near.lost(34, 101);
        DUE.is("14 not near aslant", near.fit(1, 0), 1);
        near.lost(27, 101);
        DUE.is("14 at itself", near.fit(1, 0), -3);
        HollowShire far = new HollowShire();
        Due.fill(far, 0, 2, 63);
        for (int k = 0; k < 8; k++) far.lost(0, 10);
        DUE.is("14 none of eight near", far.fit(0, 0), 0);
        HollowShire border = new HollowShire();
        Due.fill(border, 0, 2, 8);
        border.lost(7, 50);
        DUE.is("14 rows end", border.fit(0, 0), 0);
        HollowShire few = new HollowShire();
        Due.fill(few, 0, 2, 8, 10, 9);
        few.lost(9, 60);
        DUE.is("14 the fewest, though 25 and 50 are less", few.fit(0, 0), 1);
        DUE.is("14 rivals", few.fitTold(0, 3), 3);
        DUE.is("14 the last of the sheet", few.fitTold(2, 0), 100);
        DUE.is("14 its least", few.fitTold(2, 1), 0);
    }

    private static void promise14FitByEightLostWaters() {
        HollowShire x = new HollowShire();
        Due.fill(x, 0, 2, 9, 10, 17, 8, 1);
        for (int k = 0; k < 8; k++) x.lost(9, 10 + 40 * k);
        DUE.is("14 the last of eight: 290", x.fit(0, 0), 3);
        DUE.is("14 the first cell", x.fitTold(0, 0), 0);
        DUE.is("14 the last cell", x.fitTold(4, 0), 100);
        DUE.is("14 three of five of 100", x.fitTold(0, 3), 10);
        DUE.is("14 sure of none", x.fitTold(2, 1), 0);
    }

    private static void promise15FitTold() {
        HollowShire x = new HollowShire();
        DUE.is("15 no fit", x.fitTold(0, 9), -1);
        Due.fill(x, 0, 2, 9, 10);
        x.lost(9, 10);
        x.fit(0, 0);
        DUE.is("15 -1", x.fitTold(-1, 0), -1);
        DUE.is("15 behind", x.fitTold(2, 9), -1);
        DUE.is("15 what 4", x.fitTold(0, 4), -2);
        DUE.is("15 what -1", x.fitTold(0, -1), -2);
        int[][] told = {{0, 0, 10, 2}, {10, 0, 10, 2}};
        for (int i = 0; i < 2; i++) for (int w = 0; w < 4; w++) DUE.is("15 fitTold(" + i + ", " + w + ")", x.fitTold(i, w), told[i][w]);
        x.fit(1, 0);
        x.sign(1, 9, 99);
        DUE.is("15 a refused fit changes nothing", x.fitTold(1, 0), 10);
        x.fit(0, 0);
        DUE.is("15 there was none", x.fitTold(1, 3), -3);
        DUE.is("15 bad ahead of none", x.fitTold(1, 4), -2);
    }
}
