import java.util.ArrayList;
import java.util.List;
import java.util.function.Supplier;

/**
 * The edges of a call's arguments: with its lowest and its highest value the call isn't refused for that argument;
 * one below, one above and the ends of int are refused, and change nothing; of two refusals the first one told stands.
 */
final class Edges {
    interface Call {
        long on(HollowShire x, int[] a);
    }

    private record Argument(int good, int low, int high, long below, long above) { }

    private final Due due;
    private final Supplier<HollowShire> shire;
    private final String name;
    private final Call call;
    private final List<Argument> arguments = new ArrayList<>();
    private final List<Long> order = new ArrayList<>();

    /** Refusals are told in the order in which arg(..) first names them. */
    Edges(Due due, Supplier<HollowShire> shire, String name, Call call) {
        this.due = due;
        this.shire = shire;
        this.name = name;
        this.call = call;
    }

    Edges order(long... refusals) {
        for (long r : refusals) order.add(r);
        return this;
    }

    /** An argument that may be low .. high; good is the one that stands while others are tried. */
    Edges arg(int good, int low, int high, long refusal) {
        return arg(good, low, high, refusal, refusal);
    }

    Edges arg(int good, int low, int high, long below, long above) {
        arguments.add(new Argument(good, low, high, below, above));
        return this;
    }

    void check() {
        for (int i = 0; i < arguments.size(); i++) {
            Argument a = arguments.get(i);
            inside(i, a.low, a);
            inside(i, a.high, a);
            for (int low : below(a)) outside(i, low, a.below);
            for (int high : above(a)) outside(i, high, a.above);
            for (int j = 0; j < i; j++) two(i, j);
        }
    }

    private static int[] below(Argument a) {
        return new int[] {a.low - 1, Integer.MIN_VALUE};
    }

    private static int[] above(Argument a) {
        return new int[] {a.high + 1, Integer.MAX_VALUE};
    }

    private int[] good() {
        return arguments.stream().mapToInt(Argument::good).toArray();
    }

    private String told(int[] values) {
        StringBuilder s = new StringBuilder(name).append('(');
        for (int i = 0; i < values.length; i++) s.append(i == 0 ? "" : ", ").append(values[i]);
        return s.append(')').toString();
    }

    private void inside(int i, int value, Argument a) {
        int[] values = good();
        values[i] = value;
        due.isNot(told(values), call.on(shire.get(), values), value == a.low ? a.below : a.above);
    }

    private void outside(int i, int value, long refusal) {
        int[] values = good();
        values[i] = value;
        Twins.refused(due, told(values), shire, x -> call.on(x, values), refusal);
    }

    private void two(int i, int j) {
        Argument a = arguments.get(i), b = arguments.get(j);
        long[][] tries = {{a.low - 1, a.below, b.low - 1, b.below}, {a.high + 1, a.above, b.low - 1, b.below},
            {a.low - 1, a.below, b.high + 1, b.above}, {a.high + 1, a.above, b.high + 1, b.above}};
        for (long[] t : tries) {
            int[] values = good();
            values[i] = (int) t[0];
            values[j] = (int) t[2];
            long first = order.indexOf(t[1]) <= order.indexOf(t[3]) ? t[1] : t[3];
            Twins.refused(due, told(values) + " with two faults", shire, x -> call.on(x, values), first);
        }
    }
}
