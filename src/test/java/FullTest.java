/** A shire in which every list is full: each call still answers, and as the document asks. */
public final class FullTest {
    private static final Due DUE = new Due();

    public static void main(String[] args) {
        HollowShire x = new HollowShire();
        for (int h = 0; h < 14; h++) x.house(50 + h, 100, 10);
        for (int p = 0; p < 6; p++) x.pump(58 + p);
        for (int p = 0; p < 6; p++) x.pumping(p, 50);
        for (int k = 0; k < 30; k++) x.sign(1, 63, 3 * k);
        for (int k = 0; k < 30; k++) x.warn(34 + k);
        for (int k = 0; k < 8; k++) x.lost(63, 50 * (k + 1));
        for (int t = 0; t < 5; t++) Due.text(x, "build least;move 1;owe month;");
        for (int i = 0; i < 160; i++) x.feed('(', 1);
        DUE.is("text", x.text(), -4);
        DUE.is("feed", x.feed('(', 1), -4);
        for (int w = 1; w < 11; w++) DUE.is("count(" + w + ")", x.count(w), new int[] {30, 14, 6, 0, 0, 30, 6, 0, 160, 8}[w - 1]);
        x.ground(63, 0, 200);
        Due.fill(x, 0, 2, 13, 12, 11, 10, 9, 8, 7, 6);
        DUE.is("plan", x.plan(0, 79, 60), 100);
        DUE.is("planned", x.planned(), 1);
        DUE.is("beside", x.beside(60, 5, 0, 0), 1);
        Due.fill(x, 1, 0, 63, 62, 55, 54, 0);
        DUE.is("fit", x.fit(1, 0), -3);
        x.force(5);
        DUE.is("the greatest least", x.law(63, 0, 0), 174);
        x.image();
        DUE.is("run", x.run(60), 60);
        DUE.is("part", x.part(13, 1), 10100);
        DUE.is("moved", x.moved(60), 0x1fffL << 50);
        DUE.is("people", x.cellTold(62, 4), 10);
        DUE.is("true", x.warned(60, 0), 1);
        DUE.is("old", x.warned(59, 2), 29);
        DUE.is("missed", x.warned(60, 1), 0);
        DUE.is("often", x.often(0, 1), 64 + 59 * 63);
        DUE.is("back", x.back(), 0);
        DUE.is("taken", x.taken(2, 29, 7), 0);
        DUE.end("FullTest");
    }
}
