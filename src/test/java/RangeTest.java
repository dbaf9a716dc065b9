import java.util.Arrays;
import java.util.List;
import java.util.Map;
import java.util.Set;
import java.util.TreeSet;
import java.util.function.Supplier;

/**
 * Every number that a call takes, of all promises: the last ones that are as
 * told, the first ones that are not, and numbers that would be as told if they
 * were cut to fewer bits; in an empty, an ordinary and a full house.
 */
public final class RangeTest {
    private static final Edge edge = new Edge("RangeTest");
    private static final int[] DEPUTY = null;

    interface Asked {
        long of(VetoHouse x, int[] a);
    }

    /** The ranges from the document; DEPUTY: one that is there. */
    record Call(int promise, String name, Asked asked, int answer, int[]... ranges) { }

    private static int[] to(int last) {
        return new int[] {0, last};
    }

    private static int[] from(int first, int last) {
        return new int[] {first, last};
    }

    private static final List<Call> CALLS = List.of(
        new Call(2, "house", (x, a) -> x.house(a[0]), -2, to(99)),
        new Call(3, "deputy", (x, a) -> x.deputy(a[0], a[1], a[2], a[3]), -2, to(5), to(255), to(255), to(40)),
        new Call(4, "type", (x, a) -> x.type(a[0]), -2, to(127)),
        new Call(7, "moves", (x, a) -> x.moves(a[0]), -2, from(1, 255)),
        new Call(9, "buy", (x, a) -> x.buy(a[0]), -2, new int[][] {DEPUTY}),
        new Call(10, "lock", (x, a) -> x.lock(a[0]), -2, new int[][] {DEPUTY}),
        new Call(12, "of", (x, a) -> x.of(a[0], a[1]), -2, DEPUTY, to(6)),
        new Call(13, "joy", (x, a) -> x.joy(a[0], a[1]), -1000, DEPUTY, to(255)),
        new Call(14, "acts", (x, a) -> x.acts(a[0]), -2, to(1)),
        new Call(15, "stops", (x, a) -> x.stops(a[0]), -2, to(255)),
        new Call(17, "money", (x, a) -> x.money(a[0], a[1]), -2, to(200), to(2)),
        new Call(18, "tied", (x, a) -> x.tied(a[0]), -2, from(3, 255)),
        new Call(21, "courts", (x, a) -> x.courts(a[0]), -2, to(255)),
        new Call(22, "gone", (x, a) -> x.gone(a[0]), -2, to(1)),
        new Call(23, "note", (x, a) -> x.note(a[0], a[1], a[2], a[3]), -2, DEPUTY, to(255), to(99), to(1)),
        new Call(25, "is", (x, a) -> x.is(a[0]), -2, new int[][] {DEPUTY}),
        new Call(26, "holds", (x, a) -> x.holds(a[0], a[1]), -2, DEPUTY, to(7)),
        new Call(27, "tryNext", (x, a) -> x.tryNext(a[0]), -2, new int[][] {DEPUTY}),
        new Call(28, "away", (x, a) -> x.away(a[0], a[1]), -2, to(255), to(10)),
        new Call(29, "diets", (x, a) -> x.diets(a[0], a[1]), -2, to(999999), to(30)),
        new Call(30, "part", (x, a) -> x.part(a[0]), -2, to(1)),
        new Call(31, "image", (x, a) -> x.image(a[0]), -2, to(1)),
        new Call(32, "from", (x, a) -> x.from(a[0]), -2, to(1)),
        new Call(33, "status", (x, a) -> x.status(a[0]), -1, to(2)),
        new Call(34, "count", (x, a) -> x.count(a[0]), -2, to(7)));

    private static final Map<String, Supplier<VetoHouse>> HOUSES = Map.of(
        "an empty house", Houses::fresh,
        "an ordinary house", Houses::ordinary,
        "a full house", Houses::full);

    public static void main(String[] args) {
        HOUSES.forEach((which, house) -> {
            for (Call call : CALLS) {
                oneWrong(which, house, call);
                allWrong(which, house, call);
                noneWrong(which, house, call);
            }
        });
        edge.finish();
    }

    private static int[] rangeOf(Call call, int at, int deputies) {
        return call.ranges[at] == DEPUTY ? to(deputies - 1) : call.ranges[at];
    }

    /** The numbers of a call that are all as told: the least, or the greatest. */
    private static int[] asTold(Call call, int deputies, int end) {
        int[] a = new int[call.ranges.length];
        for (int i = 0; i < a.length; i++) {
            a[i] = rangeOf(call, i, deputies)[end];
        }
        return a;
    }

    private static Set<Integer> notAsTold(int[] range) {
        Set<Integer> wrong = new TreeSet<>(List.of(range[0] - 1, range[1] + 1, Integer.MIN_VALUE, Integer.MAX_VALUE,
            -1, -range[1] - 1, 1000, 1000000));
        for (int near : range) {
            for (int bits : new int[] {5, 6, 8, 16, 31}) {
                wrong.add(near + (1 << bits));
                wrong.add(near - (1 << bits));
            }
        }
        wrong.removeIf(n -> n >= range[0] && n <= range[1]);
        return wrong;
    }

    private static void oneWrong(String which, Supplier<VetoHouse> house, Call call) {
        int deputies = house.get().count(0);
        for (int end = 0; end < 2; end++) {
            for (int at = 0; at < call.ranges.length; at++) {
                for (int wrong : notAsTold(rangeOf(call, at, deputies))) {
                    int[] a = asTold(call, deputies, end);
                    a[at] = wrong;
                    edge.refused(told(which, call, a), house, x -> call.asked.of(x, a), call.answer, 0);
                }
            }
        }
    }

    /** However many numbers are not as told, one call is refused. */
    private static void allWrong(String which, Supplier<VetoHouse> house, Call call) {
        int deputies = house.get().count(0);
        for (int by = -1; by <= 1; by += 2) {
            int[] a = asTold(call, deputies, by < 0 ? 0 : 1);
            for (int i = 0; i < a.length; i++) {
                a[i] += by;
            }
            edge.refused(told(which, call, a), house, x -> call.asked.of(x, a), call.answer, 0);
        }
    }

    /** Where all numbers are as told a call may be refused as NO or FULL, but not as BAD. */
    private static void noneWrong(String which, Supplier<VetoHouse> house, Call call) {
        int deputies = house.get().count(0);
        if (deputies == 0 && Arrays.asList(call.ranges).contains(DEPUTY)) {
            return;
        }
        for (int end = 0; end < 2; end++) {
            for (int at = 0; at < call.ranges.length; at++) {
                int[] a = asTold(call, deputies, end);
                a[at] = rangeOf(call, at, deputies)[1 - end];
                notBad(told(which, call, a), house.get(), call, a);
            }
            int[] a = asTold(call, deputies, end);
            notBad(told(which, call, a), house.get(), call, a);
        }
    }

    private static void notBad(String told, VetoHouse x, Call call, int[] a) {
        int before = x.status(0);
        call.asked.of(x, a);
        edge.is(told + ": status of BAD", x.status(0), before);
    }

    private static String told(String which, Call call, int[] a) {
        return call.promise + " " + call.name + Arrays.toString(a) + " in " + which;
    }
}
