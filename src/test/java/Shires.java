import java.util.function.Supplier;

/** Shires in states from which tests set out; each is made anew, in far less than 512 calls. */
final class Shires {
    static final Supplier<HollowShire> FRESH = HollowShire::new;
    static final Supplier<HollowShire> MIXED = Shires::mixed;
    static final Supplier<HollowShire> FULL = Shires::full;
    static final Supplier<HollowShire> LATE = Shires::late;

    /**
     * Something of everything, in month 3: cell 30 fell and house 1 went with it, house 2 is moved, cell 9 with house 0
     * falls next; an image of month 1; a text that is the rule; a tape; sheets 0 (ints), 1 (shorts), 3 (bytes).
     */
    private static HollowShire mixed() {
        HollowShire x = new HollowShire();
        x.ground(10, 3, 50);
        x.ground(17, 1, 85);
        x.ground(30, 0, 121);
        x.house(9, 1000, 5);
        x.house(30, 2000, 2);
        x.house(17, 500, 9);
        x.house(40, 70, 1);
        x.pump(10);
        x.pump(20);
        x.pumping(0, 40);
        x.run(1);
        x.rain(40);
        x.sign(2, 9, 40);
        x.sign(1, 10, 12);
        x.sign(4, 17, 30);
        x.image();
        x.run(2);
        tell(x);
        return x;
    }

    private static void tell(HollowShire x) {
        x.pumping(1, 3);
        x.rain(7);
        x.move(2);
        x.mend(0, 45);
        x.sign(0, 0, 1);
        x.lost(9, 30);
        x.lost(60, 5);
        x.warn(9);
        x.warn(40);
        x.ground(9, 2, 200);
        Due.rule(x, "build least;move rock;owe month;");
        Due.feed(x, "build month;mov");
        Due.fill(x, 0, 2, 0, 1, 2);
        Due.fill(x, 1, 1, 9, 5, 10, 6);
        Due.fill(x, 3, 0, 2, 1, 0);
        x.fit(0, 3);
        x.looks(1, 6, 3);
        x.plan(3, 5, 10);
    }

    /** The mixed shire with these numbers in sheet 2. */
    static Supplier<HollowShire> withSheet(int sort, int... numbers) {
        return () -> {
            HollowShire x = mixed();
            Due.fill(x, 2, sort, numbers);
            return x;
        };
    }

    /** The mixed shire in month 1200, the last one. */
    private static HollowShire late() {
        HollowShire x = mixed();
        Due.run(x, 1197);
        return x;
    }

    /** Every list is full; month 2; cell 7 fell. */
    private static HollowShire full() {
        HollowShire x = Due.withFallen(7);
        for (int h = 0; h < 14; h++) x.house(50 + h, 100 + h, 10);
        for (int p = 0; p < 6; p++) x.pump(58 + p);
        for (int k = 0; k < 30; k++) x.sign(k % 6, 40 + k % 20, 3 * k);
        for (int i = 0; i < 30; i++) x.warn(34 + i);
        for (int i = 0; i < 8; i++) x.lost(63 - i, 50 * (i + 1));
        for (int t = 1; t < 6; t++) Due.text(x, "build " + t + ";move 1;owe month;");
        for (int i = 0; i < 20; i++) x.feed(0x2828282828282828L, 8);
        for (int s = 0; s < 4; s++) Due.fill(x, s, 2, 63 - s, 5 + s);
        x.run(1);
        return x;
    }
}
