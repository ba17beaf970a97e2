/** Compares answers with those that are due, tells the others, and ends a test. */
final class Due {
    static final long NO = HollowShire.NO;

    private int wrong = 0;
    private String sentence = "";

    /** The answers that follow are asked by these words, which stand in this part of the document. */
    void says(String part, String words) {
        sentence = part + ", \"" + words + "\": ";
        if (!Document.says(part, words)) fail("the document does not say so");
    }

    void is(String call, long got, long want) {
        if (got != want) fail(call + " answered " + got + ", due is " + want);
    }

    void isNot(String call, long got, long refusal) {
        if (got == refusal) fail(call + " was refused by " + got);
    }

    void fail(String what) {
        wrong++;
        System.out.println(sentence + what);
    }

    void end(String test) {
        System.out.println(wrong == 0 ? test + ": all answers are as due" : test + ": " + wrong + " answers are not as due");
        if (wrong != 0) System.exit(1);
    }

    /** Makes a sheet of ints (or of the sort) with these numbers. */
    static void fill(HollowShire x, int s, int sort, int... numbers) {
        x.sheet(s, sort, numbers.length);
        for (int i = 0; i < numbers.length; i++) x.cell(s, i, numbers[i]);
    }

    static void feed(HollowShire x, String text) {
        for (int at = 0; at < text.length(); at += 8) {
            int n = Math.min(8, text.length() - at);
            long w = 0;
            for (int i = 0; i < n; i++) w = w << 8 | text.charAt(at + i) & 255;
            x.feed(w, n);
        }
    }

    static int text(HollowShire x, String text) {
        feed(x, text);
        return x.text();
    }

    /** Makes this text the rule. */
    static void rule(HollowShire x, String text) {
        x.force(text(x, text));
    }

    /** Lets so many months go by, 60 at once at most. */
    static void run(HollowShire x, int months) {
        for (int left = months; left > 0; left -= 60) x.run(Math.min(60, left));
    }

    /** A new object in which this cell fell in month 0, and it is month 1. */
    static HollowShire withFallen(int cell) {
        HollowShire x = new HollowShire();
        x.ground(cell, 0, 200);
        x.run(1);
        return x;
    }
}
