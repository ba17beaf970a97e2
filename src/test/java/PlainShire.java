import java.util.ArrayList;
import java.util.Arrays;
import java.util.Comparator;
import java.util.HashSet;
import java.util.List;
import java.util.Set;

/**
 * The document once more, in the plainest way and with the whole Java library: it tries all sets, keeps copies of
 * the whole ground and reads a text anew each time. The class is compared with it (AgainstPlainShireTest).
 */
final class PlainShire {
    static final int NONE = -1, BAD = -2, STATE = -3, FULL = -4;
    static final long NO = -4611686018427387904L;

    static final class House {
        int cell, worth, people;
        House(int cell, int worth, int people) { this.cell = cell; this.worth = worth; this.people = people; }
    }

    record Sign(int kind, int cell, int value, int month) { }
    record Mend(int value, int month) { }
    record Lost(int cell, int much, int month) { }
    record Warning(int cell, int month) { }

    /** What an image keeps. */
    static final class Ground {
        int month, rain, harm;
        int[] rock = new int[64], hollow = new int[64], water = new int[64], fell = filled(64), falls = new int[4], months = new int[4];
        int[] pumping = new int[6], gone = filled(14);
        boolean[] moved = new boolean[14];

        static int[] filled(int n) { int[] a = new int[n]; Arrays.fill(a, -1); return a; }

        Ground copied() {
            Ground g = new Ground();
            g.month = month; g.rain = rain; g.harm = harm;
            g.rock = rock.clone(); g.hollow = hollow.clone(); g.water = water.clone(); g.fell = fell.clone();
            g.falls = falls.clone(); g.months = months.clone();
            g.pumping = pumping.clone(); g.gone = gone.clone(); g.moved = moved.clone();
            return g;
        }

        int fallen() { int n = 0; for (int f : fell) if (f != -1) n++; return n; }
    }

    final List<House> houses = new ArrayList<>();
    final List<Integer> pumps = new ArrayList<>();
    final List<Sign> signs = new ArrayList<>();
    final List<Mend> mends = new ArrayList<>();
    final List<Lost> losts = new ArrayList<>();
    final List<Warning> warnings = new ArrayList<>();
    final List<String> texts = new ArrayList<>(List.of(
        "build doubt < 30 and rock < 2 ; move 60 < most or fell ; owe pump * 3 + rock ;"));
    int rule = 0;
    String tape = "";
    Ground ground = new Ground();
    Ground kept = null;
    int[] fitCells = new int[0];
    List<int[]> fits = new ArrayList<>();
    int lookSet = 0, planSet = 0;
    final int[] sorts = {-1, -1, -1, -1};
    final int[][] rows = new int[4][];

    // ---- the ground

    static boolean cellIs(int c) { return c >= 0 && c < 64; }

    static List<Integer> near(int c) {
        List<Integer> all = new ArrayList<>(List.of(c));
        if (c / 8 < 7) all.add(c + 8);
        if (c % 8 < 7) all.add(c + 1);
        if (c / 8 > 0) all.add(c - 8);
        if (c % 8 > 0) all.add(c - 1);
        return all;
    }

    void month(Ground g) {
        List<int[]> wentBy = new ArrayList<>();
        for (int c = 0; c < 64; c++) g.water[c] = Math.min(9999, g.water[c] + g.rain);
        for (int p = 0; p < pumps.size(); p++) {
            int c = pumps.get(p);
            int much = Math.min(g.pumping[p], g.water[c]);
            g.water[c] -= much;
            wentBy.add(new int[] {c, much});
        }
        int[] before = g.water.clone();
        for (int c = 0; c < 64; c++) {
            List<Integer> sides = new ArrayList<>();
            if (c / 8 + 1 < 8) sides.add(c + 8);
            if (c % 8 + 1 < 8) sides.add(c + 1);
            for (int d : sides) {
                int more = Math.abs(before[c] - before[d]) / 8;
                int sign = before[c] > before[d] ? 1 : -1;
                g.water[c] -= sign * more;
                g.water[d] += sign * more;
                wentBy.add(new int[] {c, more});
                wentBy.add(new int[] {d, more});
            }
        }
        int[] solves = {0, 2, 5, 1}, bears = {120, 90, 70, 60};
        for (int[] w : wentBy)
            if (g.fell[w[0]] == -1)
                g.hollow[w[0]] = Math.min(200, g.hollow[w[0]] + w[1] * solves[g.rock[w[0]]] / 10);
        for (int c = 0; c < 64; c++) {
            if (g.fell[c] != -1) continue;
            g.months[g.rock[c]]++;
            if (g.hollow[c] > bears[g.rock[c]] + g.water[c] / 20) {
                g.fell[c] = g.month;
                g.falls[g.rock[c]]++;
                for (int h = 0; h < houses.size(); h++)
                    if (houses.get(h).cell == c && g.gone[h] == -1) {
                        g.gone[h] = g.month;
                        g.harm += houses.get(h).worth;
                        if (!g.moved[h]) g.harm += 1000 * houses.get(h).people;
                    }
            }
        }
        g.month++;
    }

    int ground(int cell, int rock, int hollow) {
        if (!cellIs(cell)) return NONE;
        if (rock < 0 || rock > 3 || hollow < 0 || hollow > 200) return BAD;
        if (ground.fell[cell] != -1) return STATE;
        int was = ground.hollow[cell];
        ground.rock[cell] = rock;
        ground.hollow[cell] = hollow;
        return was;
    }

    int house(int cell, int worth, int people) {
        if (!cellIs(cell)) return NONE;
        if (worth < 1 || worth > 99999 || people < 0 || people > 99) return BAD;
        if (ground.fell[cell] != -1) return STATE;
        if (houses.size() == 14) return FULL;
        houses.add(new House(cell, worth, people));
        return houses.size() - 1;
    }

    int pump(int cell) {
        if (!cellIs(cell)) return NONE;
        if (pumps.size() == 6) return FULL;
        pumps.add(cell);
        return pumps.size() - 1;
    }

    int pumping(int p, int n) {
        if (p < 0 || p >= pumps.size()) return NONE;
        if (n < 0 || n > 50) return BAD;
        int was = ground.pumping[p];
        ground.pumping[p] = n;
        return was;
    }

    int rain(int n) {
        if (n < 0 || n > 50) return BAD;
        int was = ground.rain;
        ground.rain = n;
        return was;
    }

    int move(int h) {
        if (h < 0 || h >= houses.size()) return NONE;
        if (ground.gone[h] != -1 || ground.moved[h]) return STATE;
        ground.moved[h] = true;
        return houses.get(h).people;
    }

    int run(int n) {
        if (n < 1 || n > 60) return BAD;
        if (ground.month + n > 1200) return FULL;
        for (int i = 0; i < n; i++) month(ground);
        return ground.month;
    }

    // ---- signs, fits

    int sign(int kind, int cell, int value) {
        if (!cellIs(cell)) return NONE;
        if (kind < 0 || kind > 5 || value < 0 || value > 99) return BAD;
        if (signs.size() == 30) return FULL;
        signs.add(new Sign(kind, cell, value, ground.month));
        mends.add(null);
        return signs.size() - 1;
    }

    int mend(int k, int value) {
        if (k < 0 || k >= signs.size()) return NONE;
        if (value < 0 || value > 99) return BAD;
        if (mends.get(k) != null) return STATE;
        mends.set(k, new Mend(value, ground.month));
        return signs.get(k).value;
    }

    boolean knowable(int known) { return known >= 0 && known <= ground.month; }

    int value(int k, int known) {
        Mend m = mends.get(k);
        return m != null && m.month <= known ? m.value : signs.get(k).value;
    }

    static int above(int kind) { return new int[] {-1, 0, 0, 1, 2, 0}[kind]; }

    static int least(int kind, int v) {
        if (kind == 0) return v > 0 ? 1 : 0;
        if (kind == 1) return 2 * v;
        if (kind == 2) return Math.max(0, v - 15);
        if (kind == 3) return least(above(kind), v) / 4;
        if (kind == 4) return least(above(kind), v) / 2;
        return 10 * least(above(kind), v);
    }

    static int most(int kind, int v) {
        if (kind == 0) return 200;
        if (kind == 2) return v + 15;
        if (kind == 4) return most(above(kind), v) + 25;
        return most(above(kind), v);
    }

    static int trust(int kind) {
        if (kind == 0) return 10;
        if (kind == 2) return trust(above(kind)) - 2;
        if (kind == 3) return trust(above(kind)) / 2;
        if (kind == 5) return 3;
        return trust(above(kind));
    }

    int signTold(int k, int what, int known) {
        if (k < 0 || k >= signs.size()) return NONE;
        if (!knowable(known) || what < 0 || what > 6) return BAD;
        Sign s = signs.get(k);
        int v = value(k, known);
        return new int[] {s.kind, s.cell, s.month, v, least(s.kind, v), most(s.kind, v), trust(s.kind)}[what];
    }

    int[] span(int cell, int known, boolean trusted) {
        int[] span = {0, 200};
        for (int k = 0; k < signs.size(); k++) {
            Sign s = signs.get(k);
            if (s.cell != cell || s.month > known || trusted && trust(s.kind) < 8) continue;
            span[0] = Math.max(span[0], least(s.kind, value(k, known)));
            span[1] = Math.min(span[1], most(s.kind, value(k, known)));
        }
        return span;
    }

    int span(int cell, int known, int what) {
        if (!cellIs(cell)) return NONE;
        if (!knowable(known) || what < 0 || what > 3) return BAD;
        int[] span = span(cell, known, what > 1);
        return span[0] > span[1] ? STATE : span[what & 1];
    }

    int lost(int cell, int much) {
        if (!cellIs(cell)) return NONE;
        if (much < 1 || much > 400) return BAD;
        if (losts.size() == 8) return FULL;
        losts.add(new Lost(cell, much, ground.month));
        return losts.size() - 1;
    }

    int fit(int sheet, int known) {
        if (sheet < 0 || sheet > 3) return NONE;
        if (rows[sheet] == null) return -11;
        int[] cells = rows[sheet];
        Set<Integer> unlike = new HashSet<>();
        for (int c : cells) if (!cellIs(c) || !unlike.add(c)) return BAD;
        if (cells.length < 1 || cells.length > 5 || !knowable(known)) return BAD;
        fitCells = cells.clone();
        fits = new ArrayList<>();
        addFits(new int[cells.length], 0, known);
        fits.sort(Comparator.comparingInt(PlainShire::few).thenComparingInt(PlainShire::sum).thenComparing(Arrays::compare));
        if (fits.isEmpty()) return STATE;
        int[] best = fits.get(0);
        fits.removeIf(f -> few(f) != few(best) || sum(f) != sum(best));
        return few(best);
    }

    static int few(int[] fit) { return (int) Arrays.stream(fit).filter(s -> s > 0).count(); }

    static int sum(int[] fit) { return Arrays.stream(fit).sum(); }

    void addFits(int[] sizes, int i, int known) {
        if (i < sizes.length) {
            int[] span = span(fitCells[i], known, false);
            for (int size : new int[] {100, 50, 25, 10, 0})
                if (size >= span[0] && size <= span[1]) {
                    sizes[i] = size;
                    addFits(sizes, i + 1, known);
                }
            return;
        }
        for (Lost l : losts) {
            int sum = 0, near = 0;
            for (int j = 0; j < sizes.length; j++)
                if (near(l.cell).contains(fitCells[j])) { near++; sum += sizes[j]; }
            if (l.month <= known && near > 0 && sum < l.much) return;
        }
        fits.add(sizes.clone());
    }

    int fitTold(int i, int what) {
        if (i < 0 || i >= fitCells.length) return NONE;
        if (what < 0 || what > 3) return BAD;
        if (fits.isEmpty()) return STATE;
        if (what == 0) return fits.get(0)[i];
        if (what == 1) return fits.stream().mapToInt(f -> f[i]).min().getAsInt();
        if (what == 2) return fits.stream().mapToInt(f -> f[i]).max().getAsInt();
        return fits.size();
    }

    // ---- rules

    int feed(long w, int n) {
        if (n < 1 || n > 8) return BAD;
        if (tape.length() + n > 160) return FULL;
        StringBuilder more = new StringBuilder();
        for (int i = 0; i < n; i++) { more.insert(0, (char) (w & 255)); w >>= 8; }
        tape += more;
        return tape.length();
    }

    int text() {
        if (texts.size() == 6) return FULL;
        String text = tape;
        tape = "";
        int fault = new Reading(text, null).fault();
        if (fault >= 0) return -100 - fault;
        texts.add(text);
        return texts.size() - 1;
    }

    int force(int t) {
        if (t < 0 || t >= texts.size()) return BAD;
        int was = rule;
        rule = t;
        return was;
    }

    int people(int cell) {
        int n = 0;
        for (int h = 0; h < houses.size(); h++)
            if (houses.get(h).cell == cell && ground.gone[h] == -1 && !ground.moved[h]) n += houses.get(h).people;
        return n;
    }

    int[] names(int cell, int known) {
        int[] span = span(cell, known, false);
        int pumping = 0;
        for (int p = 0; p < pumps.size(); p++) if (ground.pumping[p] > 0 && near(cell).contains(pumps.get(p))) pumping++;
        int fell = ground.fell[cell];
        return new int[] {Math.max(0, span[1] - span[0]), span[0], span[1], ground.rock[cell], people(cell), pumping,
            fell >= 0 && fell <= known ? 1 : 0, known};
    }

    long law(int cell, int part, int known) {
        if (!cellIs(cell) || part < 0 || part > 2 || !knowable(known)) return NO;
        return new Reading(texts.get(rule), names(cell, known)).parts()[part];
    }

    long moved(int known) {
        if (!knowable(known)) return NO;
        long bits = 0;
        for (int c = 0; c < 64; c++) if (people(c) > 0 && law(c, 1, known) != 0) bits += 1L << c;
        return bits;
    }

    long part(int h, int what) {
        if (h < 0 || h >= houses.size() || what < 0 || what > 1) return NO;
        if (ground.gone[h] == -1) return STATE;
        House of = houses.get(h);
        long harm = of.worth + (ground.moved[h] ? 0 : 1000L * of.people);
        long owe = law(of.cell, 2, ground.gone[h]);
        if (owe < 0) owe = 0;
        if (owe > 99) owe = 99;
        long firms = harm * owe / (owe + 1);
        return what == 0 ? firms : harm - firms;
    }

    // ---- looks, chances, warnings

    int looks(int sheet, int coin, int known) {
        if (sheet < 0 || sheet > 3) return NONE;
        if (rows[sheet] == null) return -11;
        int[] row = rows[sheet];
        if (row.length > 16 || row.length % 2 == 1 || coin < 0 || coin > 1000000 || !knowable(known)) return BAD;
        for (int i = 0; i < row.length; i++)
            if (i % 2 == 0 ? !cellIs(row[i]) : row[i] < 1 || row[i] > 9999) return BAD;
        int best = -1;
        for (int set = 0; set < 1 << row.length / 2; set++) {
            int price = 0, worth = 0;
            Set<Integer> seen = new HashSet<>();
            for (int i = 0; i < row.length / 2; i++)
                if ((set & 1 << i) != 0) {
                    price += row[2 * i + 1];
                    int c = row[2 * i];
                    if (seen.add(c)) worth += Math.max(0, names(c, known)[0] - 30) * (people(c) + 1);
                }
            if (price <= coin && worth > best) { best = worth; lookSet = set; }
        }
        return best;
    }

    int lookTold() { return lookSet; }

    long often(int rock, int part) {
        if (rock < 0 || rock > 3 || part < 0 || part > 1) return NO;
        int a = ground.falls[rock], b = ground.months[rock];
        if (a == 0) { a = 0; b = 1; }
        for (int d = 2; d <= a; d++) while (a % d == 0 && b % d == 0) { a /= d; b /= d; }
        return part == 0 ? a : b;
    }

    int warn(int cell) {
        if (!cellIs(cell)) return NONE;
        if (ground.fell[cell] != -1) return STATE;
        if (warnings.size() == 30) return FULL;
        warnings.add(new Warning(cell, ground.month));
        return warnings.size() - 1;
    }

    boolean cameTrue(Warning w, int months) {
        int fell = ground.fell[w.cell];
        return fell != -1 && fell >= w.month && fell <= w.month + months;
    }

    int warned(int months, int what) {
        if (months < 1 || months > 60 || what < 0 || what > 2) return BAD;
        if (what == 0) return (int) warnings.stream().filter(w -> cameTrue(w, months)).count();
        if (what == 2) return (int) warnings.stream().filter(w -> !cameTrue(w, months) && ground.month - w.month > months).count();
        int missed = 0;
        for (int c = 0; c < 64; c++) {
            int cell = c;
            if (ground.fell[c] != -1 && warnings.stream().noneMatch(w -> w.cell == cell && cameTrue(w, months))) missed++;
        }
        return missed;
    }

    // ---- looking, ahead

    int cellTold(int c, int what) {
        if (!cellIs(c)) return -5;
        if (what < 0 || what > 4) return -7;
        return new int[] {ground.rock[c], ground.water[c], ground.fell[c], ground.fell[c] == -1 ? -3 : ground.hollow[c], people(c)}[what];
    }

    int houseTold(int h, int what) {
        if (h < 0 || h >= houses.size()) return -5;
        if (what < 0 || what > 4) return -7;
        House of = houses.get(h);
        return new int[] {of.cell, of.worth, of.people, ground.gone[h], ground.moved[h] ? 1 : 0}[what];
    }

    boolean ahead(int n) { return n >= 1 && n <= 60 && ground.month + n <= 1200; }

    long beside(int n, int pump, int pumped, int what) {
        if (!ahead(n) || pump < -1 || pump >= pumps.size() || pumped < 0 || pumped > 50 || what < 0 || what > 2) return NO;
        Ground then = ground.copied();
        if (pump != -1) then.pumping[pump] = pumped;
        for (int i = 0; i < n; i++) month(then);
        return new int[] {then.fallen() - ground.fallen(), then.harm - ground.harm, then.month}[what];
    }

    long plan(int sheet, int room, int n) {
        if (sheet < 0 || sheet > 3 || rows[sheet] == null || rows[sheet].length > 8 || room < 0 || room > 999 || !ahead(n)) return NO;
        int[] row = rows[sheet];
        for (int h : row) if (h < 0 || h >= houses.size()) return NO;
        long best = Long.MAX_VALUE;
        for (int set = 0; set < 1 << row.length; set++) {
            Set<Integer> of = new HashSet<>();
            for (int i = 0; i < row.length; i++) if ((set & 1 << i) != 0) of.add(row[i]);
            int people = 0;
            Ground then = ground.copied();
            for (int h : of) {
                if (!ground.moved[h]) people += houses.get(h).people;
                then.moved[h] = true;
            }
            if (people > room) continue;
            for (int i = 0; i < n; i++) month(then);
            if (then.harm - ground.harm < best) { best = then.harm - ground.harm; planSet = set; }
        }
        return best;
    }

    int planned() { return planSet; }

    int image() { kept = ground.copied(); return ground.month; }

    int back() {
        if (kept == null) return STATE;
        ground = kept.copied();
        return ground.month;
    }

    int count(int what) {
        if (what < 0 || what > 11) return BAD;
        return new int[] {ground.month, signs.size(), houses.size(), pumps.size(), ground.fallen(), ground.harm, warnings.size(),
            texts.size(), rule, tape.length(), losts.size(), ground.rain}[what];
    }

    // ---- the host

    int sheet(int s, int sort, int n) {
        if (s < 0 || s > 3 || sort < -1 || sort > 2 || sort != -1 && n > 40) return BAD;
        if (sort != -1 && n < 0) return -14;
        sorts[s] = sort;
        rows[s] = sort == -1 ? null : new int[n];
        return 1;
    }

    int cell(int s, int i, int v) {
        if (s < 0 || s > 3) return BAD;
        if (rows[s] == null) return -11;
        if (i < 0 || i >= rows[s].length) return -12;
        rows[s][i] = sorts[s] == 0 ? (byte) v : sorts[s] == 1 ? (short) v : v;
        return 1;
    }

    int copy(int s, int i, int other, int j, int n) {
        if (s < 0 || s > 3 || other < 0 || other > 3) return BAD;
        if (rows[s] == null || rows[other] == null) return -11;
        if (sorts[s] != sorts[other]) return -13;
        if (i < 0 || j < 0 || n < 0 || (long) i + n > rows[s].length || (long) j + n > rows[other].length) return -12;
        int[] were = rows[s].clone();
        for (int k = 0; k < n; k++) rows[other][j + k] = were[i + k];
        return n;
    }

    int signs(int s, int sort, int from, int n) {
        if (s < 0 || s > 3 || sort < 0 || sort > 2 || n < 0 || n > 13) return BAD;
        if (rows[s] == null) return -11;
        if (sorts[s] != sort) return -13;
        int came = 0;
        for (long at = from; n > 0; n--, at += 3) {
            if (at < 0 || at + 2 >= rows[s].length) return -12;
            int i = (int) at;
            if (sign(rows[s][i], rows[s][i + 1], rows[s][i + 2]) >= 0) came++;
        }
        return came;
    }

    int taken(int what, int i, int kind) {
        if (what < 0 || what > 2 || kind < 0 || kind > 7) return BAD;
        int there = what == 0 ? signs.size() : what == 1 ? houses.size() : warnings.size();
        if (i < 0 || i >= there) return -11;
        if (what == 1) return kind == 6 ? houses.get(i).worth : -13;
        if (what == 2) return kind == 7 ? warnings.get(i).month : -13;
        for (int k = signs.get(i).kind; k != -1; k = above(k)) if (k == kind) return signs.get(i).cell;
        return -13;
    }

    /** Reads a text and counts at once; the names' worths are all 0 if only its fault is asked. */
    static final class Reading {
        static final List<String> NAMES = List.of("doubt", "least", "most", "rock", "people", "pump", "fell", "month");
        static final List<String> KEYS = List.of("build", "move", "owe", "and", "or", "not");

        static final class Fault extends RuntimeException {
            final int place;
            Fault(int place) { this.place = place; }
        }

        final String text;
        final int[] names;
        int at = 0, begin = 0;
        String token;
        int open = 0;

        Reading(String text, int[] names) { this.text = text; this.names = names; }

        int fault() {
            try {
                parts();
                return -1;
            } catch (Fault f) {
                return f.place;
            }
        }

        int[] parts() {
            next();
            int[] parts = new int[3];
            for (int i = 0; i < 3; i++) {
                need(KEYS.get(i));
                parts[i] = or();
                need(";");
            }
            need("");
            return parts;
        }

        void next() {
            while (at < text.length() && (text.charAt(at) == ' ' || text.charAt(at) == '\n')) at++;
            begin = at;
            if (at == text.length()) { token = ""; return; }
            char c = text.charAt(at);
            if (c >= 'a' && c <= 'z') {
                while (at < text.length() && text.charAt(at) >= 'a' && text.charAt(at) <= 'z') at++;
            } else if (c >= '0' && c <= '9') {
                while (at < text.length() && text.charAt(at) >= '0' && text.charAt(at) <= '9') at++;
                if (at - begin > 4) throw new Fault(begin);
            } else if ("();+-*<=".indexOf(c) >= 0) {
                at++;
            } else {
                throw new Fault(begin);
            }
            token = text.substring(begin, at);
            if (c >= 'a' && c <= 'z' && !NAMES.contains(token) && !KEYS.contains(token)) throw new Fault(begin);
        }

        boolean is(String t) { return token.equals(t); }

        void need(String t) {
            if (!is(t)) throw new Fault(begin);
            if (!t.isEmpty()) next();
        }

        void opened() {
            if (open == 5) throw new Fault(begin);
            open++;
            next();
        }

        int or() {
            int v = and();
            while (is("or")) { next(); int w = and(); v = v != 0 | w != 0 ? 1 : 0; }
            return v;
        }

        int and() {
            int v = not();
            while (is("and")) { next(); int w = not(); v = v != 0 & w != 0 ? 1 : 0; }
            return v;
        }

        int not() {
            if (is("not")) { opened(); int v = not(); open--; return v == 0 ? 1 : 0; }
            int v = sum();
            if (is("<")) { next(); int w = sum(); return v < w ? 1 : 0; }
            if (is("=")) { next(); int w = sum(); return v == w ? 1 : 0; }
            return v;
        }

        int sum() {
            int v = term();
            while (is("+") || is("-")) { boolean plus = is("+"); next(); int w = term(); v = plus ? v + w : v - w; }
            return v;
        }

        int term() {
            int v = one();
            while (is("*")) { next(); v *= one(); }
            return v;
        }

        int one() {
            if (is("-")) { opened(); int v = one(); open--; return -v; }
            if (is("(")) { opened(); int v = or(); need(")"); open--; return v; }
            int name = NAMES.indexOf(token);
            if (name >= 0) { next(); return names == null ? 0 : names[name]; }
            if (token.isEmpty() || !Character.isDigit(token.charAt(0))) throw new Fault(begin);
            int v = Integer.parseInt(token);
            next();
            return v;
        }
    }
}
