import java.util.function.Supplier;
import java.util.function.ToLongFunction;

/**
 * A call at a boundary, on a house made for it alone: what it answers, what
 * STATUS counts of it, and, where it should change nothing, that it did not.
 * A twin that never had the call tells what can not be seen at once: what may
 * be undone, what the images keep, what stands in THE TEXT.
 */
final class Edge {
    private static final String[] REASONS = {"BAD", "NO", "FULL"};
    private static final int NOT_REFUSED = -1;

    private final Due due;

    Edge(String test) {
        due = new Due(test);
    }

    void is(String what, long got, long want) {
        due.is(what, got, want);
    }

    void finish() {
        due.finish();
    }

    void bad(String call, Supplier<VetoHouse> house, ToLongFunction<VetoHouse> asked) {
        refused(call, house, asked, -2, 0);
    }

    void no(String call, Supplier<VetoHouse> house, ToLongFunction<VetoHouse> asked) {
        refused(call, house, asked, -3, 1);
    }

    void full(String call, Supplier<VetoHouse> house, ToLongFunction<VetoHouse> asked) {
        refused(call, house, asked, -4, 2);
    }

    /** Refused with another answer than its reason's own. */
    void refused(String call, Supplier<VetoHouse> house, ToLongFunction<VetoHouse> asked, long answer, int reason) {
        changesNothing(call, house, asked, answer, reason);
    }

    /** Answered, not refused, and nothing is changed. */
    void tells(String call, Supplier<VetoHouse> house, ToLongFunction<VetoHouse> asked, long answer) {
        changesNothing(call, house, asked, answer, NOT_REFUSED);
    }

    /** Answered, not refused; the house behind it. */
    VetoHouse does(String call, Supplier<VetoHouse> house, ToLongFunction<VetoHouse> asked, long answer) {
        VetoHouse x = house.get();
        int[] before = status(x);
        due.is(call, asked.applyAsLong(x), answer);
        counted(call, x, before, NOT_REFUSED);
        return x;
    }

    private void changesNothing(String call, Supplier<VetoHouse> house, ToLongFunction<VetoHouse> asked, long answer,
            int reason) {
        VetoHouse x = house.get();
        int[] before = status(x);
        long[] seen = seen(x);
        due.is(call, asked.applyAsLong(x), answer);
        counted(call, x, before, reason);
        same(call + ": what is seen (count, acts, of, part, digest)", seen(x), seen);
        same(call + ": what is kept (undo, images, text)", kept(x), kept(house.get()));
    }

    private void counted(String call, VetoHouse x, int[] before, int reason) {
        int[] behind = status(x);
        for (int i = 0; i < REASONS.length; i++) {
            due.is(call + ": status of " + REASONS[i], behind[i], before[i] + (i == reason ? 1 : 0));
        }
    }

    private void same(String what, long[] got, long[] want) {
        due.is(what + ": how many", got.length, want.length);
        for (int i = 0; i < got.length && i < want.length; i++) {
            if (got[i] != want[i]) {
                due.is(what + ": row " + i, got[i], want[i]);
                return;
            }
        }
    }

    private static int[] status(VetoHouse x) {
        return new int[] {x.status(0), x.status(1), x.status(2)};
    }

    private static long[] seen(VetoHouse x) {
        int deputies = x.count(0);
        long[] all = new long[8 + 2 + 2 + 1 + 7 * deputies];
        int at = 0;
        for (int what = 0; what < 8; what++) {
            all[at++] = x.count(what);
        }
        for (int what = 0; what < 2; what++) {
            all[at++] = x.acts(what);
            all[at++] = x.part(what);
        }
        all[at++] = x.digest();
        for (int i = 0; i < deputies; i++) {
            for (int what = 0; what < 7; what++) {
                all[at++] = x.of(i, what);
            }
        }
        return all;
    }

    /** Uses the house up. */
    private static long[] kept(VetoHouse x) {
        long[] all = new long[60];
        int at = backwards(x, all, 0);
        for (int image = 0; image < 2; image++) {
            all[at++] = x.from(image);
            all[at++] = x.digest();
            at = backwards(x, all, at);
        }
        all[at++] = x.read();
        all[at] = x.digest();
        return all;
    }

    private static int backwards(VetoHouse x, long[] all, int first) {
        int at = first;
        for (int i = x.count(6); i > 0; i--) {
            all[at++] = x.undo();
            all[at++] = x.digest();
        }
        return at;
    }
}
