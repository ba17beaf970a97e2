/**
 * Long runs of calls, made by a fixed row of numbers, on the class and on PlainShire: each answer must be the same,
 * for arguments within, at and beyond all bounds. What the class throws ends the test.
 */
public final class AgainstPlainShireTest {
    // 512 calls is all that an object has: the last ones look at what the others left.
    private static final int RUNS = 2000, CALLS = 512, LOOKING = 50, CALLS_IN_ONE = 70;
    private static final String[] WORDS = {"doubt", "least", "most", "rock", "people", "pump", "fell", "month"};
    private static final String[] PIECES = {"(", ")", "not ", "-", "+", "*", "<", "=", " and ", " or ", ";", "build ", "owe ",
        "12345", "9999", "0", "x", "doubts", "A", "\n", "\u00e9", "7", "most", "- - - -", "((((", "not not not "};

    private long state;
    private PlainShire plain;
    private HollowShire shire;
    private final StringBuilder told = new StringBuilder();
    private int wrong = 0;
    private int asked;
    private static final int[] ANSWERED = new int[64];

    public static void main(String[] args) {
        AgainstPlainShireTest test = new AgainstPlainShireTest();
        for (int seed = 1; seed <= RUNS && test.wrong == 0; seed++) test.run(seed);
        if (args.length > 0) for (int i = 0; i < ANSWERED.length; i++) if (ANSWERED[i] > 0) System.out.println(i + ": " + ANSWERED[i]);
        System.out.println(test.wrong == 0 ? RUNS + " runs answer as the plain shire does" : "some answers differ");
        if (test.wrong != 0) System.exit(1);
    }

    private int next(int bound) {
        state = state * 6364136223846793005L + 1442695040888963407L;
        return (int) ((state >>> 33) % bound);
    }

    /** Mostly within low .. high, at times at an end, just beyond one, or far away. */
    private int some(int low, int high) {
        int turn = next(100);
        if (turn < 84 || high < low) return low + next(Math.max(1, high - low + 1));
        if (turn < 92) return next(2) == 0 ? low : high;
        if (turn < 98) return next(2) == 0 ? low - 1 : high + 1;
        int[] far = {Integer.MIN_VALUE, Integer.MAX_VALUE, -1000, 1000, Integer.MAX_VALUE - 1, 256, 65536};
        return far[next(far.length)];
    }

    private int someCell() {
        int[] few = {0, 1, 8, 9, 10, 17, 18, 63, 62, 55};
        return next(4) > 0 ? few[next(few.length)] : some(0, 63);
    }

    private int known() { return next(3) == 0 ? plain.ground.month : some(0, plain.ground.month); }

    private int months() { return next(2) == 0 ? 1 + next(6) : some(1, 60); }

    private void run(int seed) {
        state = seed;
        plain = new PlainShire();
        shire = new HollowShire();
        told.setLength(0);
        asked = 0;
        // Each run leans to other calls, so that some fill all lists and others let many months pass.
        int[] weight = new int[40];
        int all = 0;
        for (int p = 2; p <= 39; p++) {
            weight[p] = next(3) == 0 ? 0 : 1 + next(6) * next(4);
            all += weight[p];
        }
        if (seed % 3 == 0) prepareGround();
        while (asked < CALLS - LOOKING - CALLS_IN_ONE && wrong == 0) {
            int p = 2;
            int turn = next(all);
            for (p = 2; turn >= weight[p]; p++) turn -= weight[p];
            if (p == 17 && next(3) > 0) feedText(); else call(p);
        }
        tellAll();
    }

    private void prepareGround() {
        for (int c = 0; c < 24; c++) { int rock = next(4), hollow = 30 + next(60); due("ground", plain.ground(c, rock, hollow), shire.ground(c, rock, hollow), c, rock, hollow); }
        int rain = 10 + next(41);
        due("rain", plain.rain(rain), shire.rain(rain), rain);
        for (int h = 0; h < 8; h++) { int c = next(24), worth = 1 + next(9000), people = next(20); due("house", plain.house(c, worth, people), shire.house(c, worth, people), c, worth, people); }
    }

    private void tellAll() {
        for (int w = 0; w < 12; w++) due("count", plain.count(w), shire.count(w), w);
        for (int r = 0; r < 4; r++) for (int w = 0; w < 2; w++) due("often", plain.often(r, w), shire.often(r, w), r, w);
        while (asked < CALLS) {
            int c = asked % 64, h = next(14), w = next(5);
            if (asked % 5 > 0) due("cellTold", plain.cellTold(c, w), shire.cellTold(c, w), c, w);
            else due("houseTold", plain.houseTold(h, w), shire.houseTold(h, w), h, w);
        }
    }

    private void due(String name, long want, long got, long... args) {
        asked++;
        told.append(name).append('(');
        for (int i = 0; i < args.length; i++) told.append(i == 0 ? "" : ", ").append(args[i]);
        told.append(") = ").append(got).append('\n');
        if (want == got || wrong > 0) return;
        wrong++;
        System.out.println(told + "due is " + want);
    }

    private String someText() {
        StringBuilder s = new StringBuilder();
        String[] keys = {"build ", " move ", " owe "};
        int pick = next(6);
        for (int i = 0; i < 3; i++) s.append(keys[i]).append(expression(pick < 3 ? 2 : 3)).append(next(4) == 0 ? " ;" : ";");
        for (int i = next(3); i > 0; i--) {
            int at = next(s.length() + 1);
            if (pick == 0) s.insert(at, PIECES[next(PIECES.length)]);
            if (pick == 1) s.setLength(at);
            if (pick == 2 && at < s.length()) s.deleteCharAt(at);
        }
        return s.length() > 160 ? s.substring(0, 160) : s.toString();
    }

    private String expression(int depth) {
        int turn = depth == 0 ? next(2) : next(13);
        switch (turn) {
            case 0: return WORDS[next(8)];
            case 1: return "" + next(next(2) == 0 ? 10 : 10000);
            case 2: return "(" + expression(depth - 1) + ")";
            case 3: return "-" + expression(0);
            case 4: return "not " + expression(depth - 1);
            case 5: return "(" + expression(depth - 1) + ")<" + expression(0);
            default:
                String[] joins = {" and ", " or ", "<", " = ", " + ", "-", "*"};
                return expression(depth - 1) + joins[turn - 6] + expression(depth - 1);
        }
    }

    private void feedText() {
        String text = someText();
        for (int at = 0; at < text.length(); at += 8) {
            int n = Math.min(8, text.length() - at);
            long w = 0;
            for (int i = 0; i < n; i++) w = w << 8 | text.charAt(at + i) & 255;
            due("feed", plain.feed(w, n), shire.feed(w, n), w, n);
        }
        due("text", plain.text(), shire.text());
        int t = next(6);
        due("force", plain.force(t), shire.force(t), t);
        for (int p = 0; p < 3; p++) { int c = someCell(), k = known(); due("law", plain.law(c, p, k), shire.law(c, p, k), c, p, k); }
    }

    /** A sheet that is most often fit for one of the calls that read sheets. */
    private void fillSheet(int s) {
        int use = next(5);
        int[] sizes = {some(1, 5), 2 * next(9), next(9), 3 * next(14), some(0, 40)};
        int n = Math.min(40, sizes[use]);
        int sort = use < 3 ? 2 - next(8) / 7 : next(3);
        due("sheet", plain.sheet(s, sort, n), shire.sheet(s, sort, n), s, sort, n);
        for (int i = 0; i < n; i++) {
            int v = someValue(use, i);
            due("cell", plain.cell(s, i, v), shire.cell(s, i, v), s, i, v);
        }
        int k = known();
        if (use == 0) due("fit", plain.fit(s, k), shire.fit(s, k), s, k);
        if (use == 0) for (int i = 0; i < n; i++) for (int w = 0; w < 4; w++) due("fitTold", plain.fitTold(i, w), shire.fitTold(i, w), i, w);
        int coin = next(3) == 0 ? some(0, 1000000) : next(900);
        if (use == 1) due("looks", plain.looks(s, coin, k), shire.looks(s, coin, k), s, coin, k);
        if (use == 1) due("lookTold", plain.lookTold(), shire.lookTold());
        int room = next(60), m = months();
        if (use == 2) due("plan", plain.plan(s, room, m), shire.plan(s, room, m), s, room, m);
        if (use == 2) due("planned", plain.planned(), shire.planned());
    }

    private int someValue(int use, int i) {
        switch (use) {
            case 0: return next(12) > 0 ? new int[] {9, 10, 17, 18, 1, 8, 0}[(i + next(2)) % 7] : some(0, 63);
            case 1: return i % 2 == 0 ? (next(30) > 0 ? next(64) : some(0, 63)) : next(30) > 0 ? 1 + next(300) : some(1, 9999);
            case 2: return next(40) > 0 ? next(Math.max(1, plain.houses.size())) : some(0, 13);
            case 3: return i % 3 == 0 ? some(0, 5) : i % 3 == 1 ? someCell() : some(0, 99);
            default: return some(-200, 200);
        }
    }

    private void call(int p) {
        ANSWERED[p]++;
        if (p <= 8) callGround(p);
        else if (p <= 15) callSigns(p);
        else if (p <= 21) callRules(p);
        else if (p <= 26) callLooks(p);
        else if (p <= 34) callAhead(p);
        else callHost(p);
    }

    private void callGround(int p) {
        int c = someCell(), n = some(0, 50), pump = some(0, 5), h = some(0, 13), m = months();
        switch (p) {
            case 2: { int rock = some(0, 3), hollow = some(0, 200); due("ground", plain.ground(c, rock, hollow), shire.ground(c, rock, hollow), c, rock, hollow); break; }
            case 3: { int worth = some(1, 99999), people = some(0, 99); due("house", plain.house(c, worth, people), shire.house(c, worth, people), c, worth, people); break; }
            case 4: due("pump", plain.pump(c), shire.pump(c), c); break;
            case 5: due("pumping", plain.pumping(pump, n), shire.pumping(pump, n), pump, n); break;
            case 6: due("rain", plain.rain(n), shire.rain(n), n); break;
            case 7: due("move", plain.move(h), shire.move(h), h); break;
            default: due("run", plain.run(m), shire.run(m), m); break;
        }
    }

    private void callSigns(int p) {
        int c = someCell(), k = some(0, 29), v = some(0, 99), kn = known(), s = some(0, 3);
        switch (p) {
            case 9: { int kind = some(0, 5); due("sign", plain.sign(kind, c, v), shire.sign(kind, c, v), kind, c, v); break; }
            case 10: due("mend", plain.mend(k, v), shire.mend(k, v), k, v); break;
            case 11: { int w = some(0, 6); due("signTold", plain.signTold(k, w, kn), shire.signTold(k, w, kn), k, w, kn); break; }
            case 12: { int w = some(0, 3); due("span", plain.span(c, kn, w), shire.span(c, kn, w), c, kn, w); break; }
            case 13: { int much = next(2) == 0 ? some(1, 400) : 1 + next(150); due("lost", plain.lost(c, much), shire.lost(c, much), c, much); break; }
            case 14: due("fit", plain.fit(s, kn), shire.fit(s, kn), s, kn); break;
            default: { int i = some(0, 4), w = some(0, 3); due("fitTold", plain.fitTold(i, w), shire.fitTold(i, w), i, w); break; }
        }
    }

    private void callRules(int p) {
        int c = someCell(), kn = known(), h = some(0, 13);
        switch (p) {
            case 16: { long w = (long) next(1 << 30) << 32 ^ next(1 << 30); int n = some(1, 8); due("feed", plain.feed(w, n), shire.feed(w, n), w, n); break; }
            case 17: due("text", plain.text(), shire.text()); break;
            case 18: { int t = some(0, 5); due("force", plain.force(t), shire.force(t), t); break; }
            case 19: { int part = some(0, 2); due("law", plain.law(c, part, kn), shire.law(c, part, kn), c, part, kn); break; }
            case 20: due("moved", plain.moved(kn), shire.moved(kn), kn); break;
            default: { int w = some(0, 1); due("part", plain.part(h, w), shire.part(h, w), h, w); break; }
        }
    }

    private void callLooks(int p) {
        int c = someCell(), kn = known(), s = some(0, 3), m = some(1, 60);
        switch (p) {
            case 22: { int coin = some(0, 1000000); due("looks", plain.looks(s, coin, kn), shire.looks(s, coin, kn), s, coin, kn); break; }
            case 23: due("lookTold", plain.lookTold(), shire.lookTold()); break;
            case 24: { int rock = some(0, 3), part = some(0, 1); due("often", plain.often(rock, part), shire.often(rock, part), rock, part); break; }
            case 25: due("warn", plain.warn(c), shire.warn(c), c); break;
            default: { int w = some(0, 2); due("warned", plain.warned(m, w), shire.warned(m, w), m, w); break; }
        }
    }

    private void callAhead(int p) {
        int c = someCell(), m = months(), s = some(0, 3), w = some(0, 4);
        switch (p) {
            case 27: due("cellTold", plain.cellTold(c, w), shire.cellTold(c, w), c, w); break;
            case 28: { int h = some(0, 13); due("houseTold", plain.houseTold(h, w), shire.houseTold(h, w), h, w); break; }
            case 29: { int pump = some(-1, plain.pumps.size() - 1), n = some(0, 50), what = some(0, 2); due("beside", plain.beside(m, pump, n, what), shire.beside(m, pump, n, what), m, pump, n, what); break; }
            case 30: { int room = some(0, 999); due("plan", plain.plan(s, room, m), shire.plan(s, room, m), s, room, m); break; }
            case 31: due("planned", plain.planned(), shire.planned()); break;
            case 32: due("image", plain.image(), shire.image()); break;
            case 33: due("back", plain.back(), shire.back()); break;
            default: { int what = some(0, 11); due("count", plain.count(what), shire.count(what), what); break; }
        }
    }

    private void callHost(int p) {
        int s = some(0, 3), i = some(0, 40), n = some(0, 12);
        switch (p) {
            case 35: if (next(4) > 0) { fillSheet(next(4)); break; }
                { int sort = some(-1, 2), size = some(0, 40); due("sheet", plain.sheet(s, sort, size), shire.sheet(s, sort, size), s, sort, size); break; }
            case 36: { int v = some(-70000, 70000); due("cell", plain.cell(s, i, v), shire.cell(s, i, v), s, i, v); break; }
            case 37: { int other = some(0, 3), j = some(0, 20); i = some(0, 20); due("copy", plain.copy(s, i, other, j, n), shire.copy(s, i, other, j, n), s, i, other, j, n); break; }
            case 38: { int sort = next(3) > 0 && s >= 0 && s < 4 ? plain.sorts[s] : some(0, 2), from = some(0, 10), much = some(0, 13); due("signs", plain.signs(s, sort, from, much), shire.signs(s, sort, from, much), s, sort, from, much); break; }
            default: { int w = some(0, 2), k = some(0, 15), kind = some(0, 7); due("taken", plain.taken(w, k, kind), shire.taken(w, k, kind), w, k, kind); break; }
        }
    }
}
