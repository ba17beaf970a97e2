import java.util.ArrayList;
import java.util.HashMap;
import java.util.List;
import java.util.Map;
import java.util.function.BiConsumer;
import java.util.function.Consumer;
import java.util.function.Supplier;

/**
 * Two shires made by the same calls, one of them asked for something more: if that changes nothing, both answer all
 * later calls alike. Many questions change the shire that is asked, and 512 calls is all that an object has: each
 * kind of questions gets twins of its own.
 */
final class Twins {
    private static final List<BiConsumer<HollowShire, List<Long>>> QUESTIONS = List.of(
        Twins::askLists, Twins::askSigns, Twins::askCells, Twins::askHollows, Twins::askTexts, Twins::askImage, Twins::askSheets);
    private static final Map<Supplier<HollowShire>, List<List<Long>>> ALONE = new HashMap<>();

    static void unchanged(Due due, String call, Supplier<HollowShire> shire, Consumer<HollowShire> more) {
        List<List<Long>> alone = ALONE.computeIfAbsent(shire, s -> answers(s, x -> { }));
        if (!alone.equals(answers(shire, more))) due.fail(call + " changed something");
    }

    /** The call's answer is this refusal, and nothing is changed. */
    static void refused(Due due, String call, Supplier<HollowShire> shire, Asked asked, long refusal) {
        due.is(call, asked.by(shire.get()), refusal);
        unchanged(due, call, shire, asked::by);
    }

    interface Asked {
        long by(HollowShire x);
    }

    private static List<List<Long>> answers(Supplier<HollowShire> shire, Consumer<HollowShire> more) {
        List<List<Long>> all = new ArrayList<>();
        for (BiConsumer<HollowShire, List<Long>> question : QUESTIONS) {
            HollowShire x = shire.get();
            more.accept(x);
            List<Long> told = new ArrayList<>();
            question.accept(x, told);
            all.add(told);
        }
        return all;
    }

    private static void askLists(HollowShire x, List<Long> told) {
        for (int w = 0; w < 12; w++) told.add((long) x.count(w));
        for (int h = 0; h < 14; h++) for (int w = 0; w < 5; w++) told.add((long) x.houseTold(h, w));
        for (int i = 0; i < 5; i++) for (int w = 0; w < 4; w++) told.add((long) x.fitTold(i, w));
        told.add((long) x.lookTold());
        told.add((long) x.planned());
        for (int r = 0; r < 4; r++) for (int p = 0; p < 2; p++) told.add(x.often(r, p));
        for (int m = 1; m < 4; m++) for (int w = 0; w < 3; w++) told.add((long) x.warned(m, w));
        for (int i = 0; i < 30; i++) told.add((long) x.taken(2, i, 7));
        for (int i = 0; i < 30; i++) told.add((long) x.taken(0, i, 0));
        for (int h = 0; h < 14; h++) for (int w = 0; w < 2; w++) told.add(x.part(h, w));
        told.add(x.moved(0));
        told.add(x.moved(x.count(0)));
        for (int w = 0; w < 3; w++) told.add(x.beside(60, -1, 0, w));
    }

    private static void askSigns(HollowShire x, List<Long> told) {
        int month = x.count(0);
        for (int k = 0; k < 30; k++) for (int w = 0; w < 7; w++) told.add((long) x.signTold(k, w, month));
        for (int k = 0; k < 30; k++) told.add((long) x.signTold(k, 3, 0));
        for (int k = 0; k < 30; k++) told.add((long) x.mend(k, 99));
        // A cell's lost waters are told by the fit that they ask for.
        for (int c = 0; c < 64; c += 3) {
            Due.fill(x, 0, 2, c);
            told.add((long) x.fit(0, month));
            told.add((long) x.fitTold(0, 0));
        }
    }

    private static void askCells(HollowShire x, List<Long> told) {
        for (int c = 0; c < 64; c++) for (int w = 0; w < 5; w++) told.add((long) x.cellTold(c, w));
        for (int c = 1; c < 64; c += 8) told.add((long) x.span(c, x.count(0), 1));
    }

    private static void askHollows(HollowShire x, List<Long> told) {
        for (int c = 0; c < 64; c++) told.add((long) x.ground(c, 0, 0));
        for (int p = 0; p < 6; p++) told.add((long) x.pumping(p, 0));
        told.add((long) x.rain(0));
        for (int h = 0; h < 14; h++) told.add((long) x.move(h));
        told.add((long) x.house(1, 1, 1));
        told.add((long) x.pump(1));
        told.add((long) x.lost(1, 1));
        told.add((long) x.warn(1));
    }

    private static void askTexts(HollowShire x, List<Long> told) {
        // This ends the text that the mixed shire has on its tape.
        Due.feed(x, "e 2;owe 3;");
        told.add((long) x.text());
        told.add((long) x.count(9));
        for (int t = 0; t < 6; t++) {
            told.add((long) x.force(t));
            for (int c = 8; c < 11; c++) for (int p = 0; p < 3; p++) told.add(x.law(c, p, x.count(0)));
        }
    }

    private static void askImage(HollowShire x, List<Long> told) {
        told.add((long) x.back());
        for (int w = 0; w < 12; w++) told.add((long) x.count(w));
        for (int c = 0; c < 64; c++) for (int w = 1; w < 4; w++) told.add((long) x.cellTold(c, w));
        for (int c = 0; c < 64; c++) told.add((long) x.ground(c, 0, 0));
        for (int h = 0; h < 14; h++) for (int w = 3; w < 5; w++) told.add((long) x.houseTold(h, w));
        for (int p = 0; p < 6; p++) told.add((long) x.pumping(p, 0));
        for (int r = 0; r < 4; r++) told.add(x.often(r, 1));
    }

    private static void askSheets(HollowShire x, List<Long> told) {
        int month = x.count(0);
        for (int s = 0; s < 4; s++) {
            told.add((long) x.fit(s, month));
            for (int i = 0; i < 5; i++) told.add((long) x.fitTold(i, 0));
            told.add((long) x.looks(s, 20, month));
            told.add((long) x.lookTold());
            told.add(x.plan(s, 20, 1));
            told.add((long) x.planned());
            for (int sort = 0; sort < 3; sort++) told.add((long) x.signs(s, sort, 0, 1));
            // Where its end is, and its numbers once more, as signs.
            for (int i = 1; i < 7; i++) told.add((long) x.copy(s, i, s, 0, 1));
        }
        for (int k = 0; k < 10; k++) for (int w = 0; w < 4; w++) told.add((long) x.signTold(k, w, month));
    }
}
