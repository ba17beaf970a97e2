/** Compares answers with those that are due, tells the others, and ends a test. */
final class Due {
    static final long NO = HollowShire.NO;

    private int wrong = 0;

    void is(String call, long got, long want) {
        if (got != want) {
            wrong++;
            System.out.println(call + " answered " + got + ", due is " + want);
        }
    }

    void end(String test) {
        System.out.println(wrong == 0 ? test + ": all answers are as due" : test + ": " + wrong + " answers are not as due");
        if (wrong != 0) System.exit(1);
    }

    /** Makes a sheet of ints (or of the sort) with these numbers. */
    static void fill(HollowShire x, int s, int sort, int... numbers) {
        x.sheet(s, sort, numbers.length);
        for (int i = 0; i < numbers.length; i++) x.cell(s, i, numbers[i]);
    }

    static void feed(HollowShire x, String text) {
        for (int i = 0; i < text.length(); i++) x.feed(text.charAt(i), 1);
    }

    static int text(HollowShire x, String text) {
        feed(x, text);
        return x.text();
    }

    /** A new object in which this cell fell in month 0, and it is month 1. */
    static HollowShire withFallen(int cell) {
        HollowShire x = new HollowShire();
        x.ground(cell, 0, 200);
        x.run(1);
        return x;
    }
}
