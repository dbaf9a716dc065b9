import java.util.function.Supplier;
import java.util.function.ToLongFunction;

/** Promises 23 to 29 at their boundaries: note, forget, is, holds, tryNext, away, diets. */
public final class StoppedEdgeTest {
    private static final int LEAST = Integer.MIN_VALUE;
    private static final int GREATEST = Integer.MAX_VALUE;
    private static final int NONE = -1;
    private static final int PLAIN = 0, PROUD = 1, TIMID = 2, LATE = 4, KEPT = 5;
    private static final Edge edge = new Edge("StoppedEdgeTest");

    public static void main(String[] args) {
        promise23Numbers();
        promise23SixAtMost();
        promise23BoughtOrLockedNow();
        promise24Forget();
        promise25Deputies();
        promise25NoNotesAndNoKind();
        promise25Days();
        promise25EveryNote();
        promise26DeputiesAndLaws();
        promise26Holds();
        promise26AllElseAsItIs();
        promise27Deputies();
        promise27None();
        promise27OfLikeOnes();
        promise28Numbers();
        promise28LowestTerms();
        promise28NobodyOrAll();
        promise29Numbers();
        promise29SeedsAndTimes();
        promise29Sittings();
        promise29FreeOnesAlone();
        edge.finish();
    }

    private static Supplier<VetoHouse> one(int day, int kind, int love, int hate) {
        return () -> Houses.one(day, kind, love, hate, 0);
    }

    private static Supplier<VetoHouse> and(Supplier<VetoHouse> house, ToLongFunction<VetoHouse> call) {
        return Houses.behind(house, call);
    }

    private static void promise23Numbers() {
        int[][] told = {{0, 0, 0, 0}, {0, 255, 99, 1}, {2, 0, 0, 0}, {2, 255, 99, 1}, {0, 1, 0, 1}, {0, 255, 0, 0},
            {0, 0, 99, 0}, {0, 0, 0, 1}};
        for (int[] t : told) {
            VetoHouse x = edge.does("23 a note", Houses::ordinary, y -> y.note(t[0], t[1], t[2], t[3]), 2);
            edge.is("23 how many", x.count(5), 2);
        }
        int[][] wrong = {{-1, 0, 0, 0}, {3, 0, 0, 0}, {6, 0, 0, 0}, {0, -1, 0, 0}, {0, 256, 0, 0}, {0, 0, -1, 0},
            {0, 0, 100, 0}, {0, 0, 0, -1}, {0, 0, 0, 2}, {LEAST, 0, 0, 0}, {GREATEST, 0, 0, 0}, {0, LEAST, 0, 0},
            {0, GREATEST, 0, 0}, {0, 0, LEAST, 0}, {0, 0, GREATEST, 0}, {0, 0, 0, LEAST}, {0, 0, 0, GREATEST}};
        for (int[] w : wrong) {
            edge.bad("23 a wrong note", Houses::ordinary, x -> x.note(w[0], w[1], w[2], w[3]));
            edge.bad("23 a wrong note without deputies", Houses::fresh, x -> x.note(w[0], w[1], w[2], w[3]));
        }
        edge.bad("23 without deputies", Houses::fresh, x -> x.note(0, 0, 0, 0));
        edge.bad("23 day 100 on day 100", and(() -> Houses.one(99, PLAIN, 0, 0, 0), x -> x.end()),
            x -> x.note(0, 0, 100, 0));
    }

    private static Supplier<VetoHouse> notes(int many) {
        return () -> {
            VetoHouse x = Houses.one(1, PLAIN, 0, 1, 0);
            for (int i = 0; i < many; i++) {
                x.note(0, 1, 1, 1);
            }
            return x;
        };
    }

    private static void promise23SixAtMost() {
        for (int many = 0; many < 6; many++) {
            VetoHouse x = edge.does("23 behind " + many, notes(many), y -> y.note(0, 2, 2, 0), many + 1);
            edge.is("23 how many behind " + many, x.count(5), many + 1);
        }
        edge.full("23 a 7th", notes(6), x -> x.note(0, 0, 0, 0));
        edge.full("23 a 7th, all greatest", notes(6), x -> x.note(0, 255, 99, 1));
        edge.full("23 a 7th in a full house", Houses::full, x -> x.note(5, 0, 0, 0));
        edge.bad("23 BAD goes ahead of FULL: deputy", Houses::full, x -> x.note(6, 0, 0, 0));
        edge.bad("23 BAD goes ahead of FULL: bundle", Houses::full, x -> x.note(0, 256, 0, 0));
        edge.bad("23 BAD goes ahead of FULL: day", Houses::full, x -> x.note(0, 0, 100, 0));
        edge.bad("23 BAD goes ahead of FULL: stopped", Houses::full, x -> x.note(0, 0, 0, 2));
        edge.does("23 behind a forgetting", and(notes(6), x -> x.forget()), x -> x.note(0, 0, 0, 0), 1);
    }

    private static void promise23BoughtOrLockedNow() {
        edge.does("23 one who is bought now", Houses::ordinary, x -> x.note(1, 1, 1, 1), 2);
        edge.does("23 one who is locked now", Houses::ordinary, x -> x.note(2, 1, 1, 1), 2);
    }

    private static void promise24Forget() {
        edge.tells("24 a new object", Houses::fresh, x -> x.forget(), 0);
        edge.tells("24 none", notes(0), x -> x.forget(), 0);
        for (int many = 1; many <= 6; many++) {
            VetoHouse x = edge.does("24 " + many, notes(many), y -> y.forget(), many);
            edge.is("24 none are left of " + many, x.count(5), 0);
            edge.is("24 none again", x.forget(), 0);
            edge.is("24 all kinds again", x.is(0), 63);
        }
        VetoHouse full = edge.does("24 a full house", Houses::full, y -> y.forget(), 6);
        edge.is("24 what may be undone stays", full.count(6), 8);
        edge.is("24 deputies stay", full.count(0), 6);
        full.undo();
        edge.is("24 it is not undone", full.count(5), 0);
        for (int i = 1; i <= 6; i++) {
            edge.is("24 note " + i + " anew", full.note(0, 1, 1, 1), i);
        }
    }

    private static void promise25Deputies() {
        for (int wrong : new int[] {-1, 3, 6, LEAST, GREATEST}) {
            edge.bad("25 is(" + wrong + ") of three", Houses::ordinary, x -> x.is(wrong));
        }
        edge.bad("25 is(0) without deputies", Houses::fresh, x -> x.is(0));
        edge.bad("25 is(6) of six", Houses::full, x -> x.is(6));
        edge.bad("25 is(-1) of six", Houses::full, x -> x.is(-1));
        edge.tells("25 the first", Houses::ordinary, x -> x.is(0), 63);
        edge.tells("25 the last", Houses::ordinary, x -> x.is(2), 63);
        // Laws 0, 2, 7 on day 50, of which he hates 7, loves none: anybody would have stopped them, as he did.
        edge.tells("25 the last of six", Houses::full, x -> x.is(5), 63);
        // Laws 2, 7 on day 40, of which he hates 7, loves none: anybody would have stopped them, he did not.
        edge.tells("25 the fifth of six", Houses::full, x -> x.is(4), 0);
    }

    private static void promise25NoNotesAndNoKind() {
        for (int kind = 0; kind < 6; kind++) {
            edge.tells("25 no notes, kind " + kind, one(1, kind, 3, 5), x -> x.is(0), 63);
        }
        edge.tells("25 no laws, not stopped", and(one(1, PLAIN, 0, 0), x -> x.note(0, 0, 5, 0)), x -> x.is(0), 63);
        edge.tells("25 no laws, stopped: no kind", and(one(1, PLAIN, 0, 0), x -> x.note(0, 0, 5, 1)), x -> x.is(0), 0);
        Supplier<VetoHouse> both = and(and(one(1, PLAIN, 0, 1), x -> x.note(0, 1, 2, 1)), x -> x.note(0, 1, 2, 0));
        edge.tells("25 stopped and not: no kind", both, x -> x.is(0), 0);
        edge.tells("25 notes of another one", and(both, x -> x.deputy(PLAIN, 0, 1, 0)), x -> x.is(1), 63);
    }

    private static void promise25Days() {
        kinds("a hated law on day 0", 0, 2, 1, 63);
        kinds("a hated law on day 0, not", 0, 2, 0, 0);
        kinds("a hated law on day 99", 99, 2, 1, 47);
        kinds("a hated law on day 99, not", 99, 2, 0, 16);
        kinds("a hated law on day 98", 98, 2, 1, 63);
        kinds("a loved law on day 0", 0, 1, 1, 32);
        kinds("a loved law on day 0, not", 0, 1, 0, 31);
        kinds("a loved law on day 95", 95, 1, 1, 32);
        kinds("a loved law on day 99", 99, 1, 1, 0);
        kinds("a loved law on day 99, not", 99, 1, 0, 63);
        kinds("joy of -1 or 1 on day 2", 2, 3, 1, 43);
        kinds("joy of -1 or 1 on day 2, not", 2, 3, 0, 20);
    }

    /** One who loves law 0, hates law 1, today is day 1: by the note's day, not by today's. */
    private static void kinds(String what, int day, int bundle, int stopped, int want) {
        edge.tells("25 " + what, and(one(1, PLAIN, 1, 2), x -> x.note(0, bundle, day, stopped)), x -> x.is(0), want);
    }

    private static void promise25EveryNote() {
        for (int at = 0; at < 6; at++) {
            int wrong = at;
            Supplier<VetoHouse> six = () -> {
                VetoHouse x = Houses.one(1, PLAIN, 1, 2, 0);
                for (int i = 0; i < 6; i++) {
                    x.note(0, 1, 1, i == wrong ? 1 : 0);
                }
                return x;
            };
            edge.tells("25 note " + at + " alone is against all", six, x -> x.is(0), 0);
            edge.tells("26 note " + at + " alone is against all", six, x -> x.holds(0, 7), 0);
            edge.tells("27 note " + at + " alone is against all", six, x -> x.tryNext(0), NONE);
        }
    }

    private static void promise26DeputiesAndLaws() {
        edge.tells("26 law 0", Houses::ordinary, x -> x.holds(1, 0), 7);
        edge.tells("26 law 7", Houses::ordinary, x -> x.holds(2, 7), 7);
        for (int wrong : new int[] {-1, 8, 32, LEAST, GREATEST}) {
            edge.bad("26 holds(0, " + wrong + ")", Houses::ordinary, x -> x.holds(0, wrong));
            edge.bad("26 holds(5, " + wrong + ")", Houses::full, x -> x.holds(5, wrong));
        }
        for (int wrong : new int[] {-1, 3, 6, LEAST, GREATEST}) {
            edge.bad("26 holds(" + wrong + ", 0)", Houses::ordinary, x -> x.holds(wrong, 0));
        }
        edge.bad("26 without deputies", Houses::fresh, x -> x.holds(0, 0));
        edge.bad("26 holds(6, 7) of six", Houses::full, x -> x.holds(6, 7));
    }

    private static void promise26Holds() {
        for (int law = 0; law < 8; law++) {
            int l = law;
            int bundle = 1 << law;
            Supplier<VetoHouse> stopped = and(one(1, PLAIN, 0, 0), x -> x.note(0, bundle, 1, 1));
            Supplier<VetoHouse> passed = and(one(1, PLAIN, 0, 0), x -> x.note(0, bundle, 1, 0));
            edge.tells("26 law " + l + ", no notes", one(1, PLAIN, 0, 0), x -> x.holds(0, l), 7);
            edge.tells("26 law " + l + " stopped: hated", stopped, x -> x.holds(0, l), 2);
            edge.tells("26 law " + l + " stopped, of another", stopped, x -> x.holds(0, (l + 1) % 8), 0);
            edge.tells("26 law " + l + " not stopped: not hated", passed, x -> x.holds(0, l), 5);
            edge.tells("26 law " + l + " not stopped, of another", passed, x -> x.holds(0, (l + 1) % 8), 7);
        }
        edge.tells("26 loved: two for one hated", and(one(1, PLAIN, 1, 2), x -> x.note(0, 7, 1, 0)),
            x -> x.holds(0, 2), 1);
        edge.tells("26 neither", and(and(one(1, PLAIN, 1, 2), x -> x.note(0, 7, 1, 1)), x -> x.note(0, 4, 1, 0)),
            x -> x.holds(0, 2), 4);
        edge.tells("26 a law of both is put in one alone", and(one(1, TIMID, 1, 1), x -> x.note(0, 1, 2, 1)),
            x -> x.holds(0, 0), 2);
        edge.tells("26 by his kind: a proud one", and(one(1, PROUD, 3, 0), x -> x.note(0, 7, 1, 1)),
            x -> x.holds(0, 2), 2);
        edge.tells("26 by his kind: a kept one on day 0", and(one(1, KEPT, 0, 0), x -> x.note(0, 1, 0, 1)),
            x -> x.holds(0, 0), 7);
        edge.tells("26 by his kind: a late one on day 99", and(one(2, LATE, 0, 0), x -> x.note(0, 1, 99, 1)),
            x -> x.holds(0, 0), 0);
    }

    /** One who loves laws 1 and 3, hates law 2, is asked for law 0: the others count as he holds them. */
    private static void promise26AllElseAsItIs() {
        // The bundle, then what holds if he stopped it. Not stopped: what is left of 7.
        int[][] stopped = {{11, 0}, {15, 2}, {7, 6}, {5, 7}, {14, 0}, {6, 7}, {1, 2}};
        for (int[] s : stopped) {
            for (int law0 = 0; law0 < 4; law0++) {
                Supplier<VetoHouse> house = one(1, PLAIN, 10 | law0 & 1, 4 | law0 >> 1);
                String what = "26 all else as it is, law 0 held as " + law0 + ", bundle " + s[0];
                edge.tells(what + " stopped", and(house, x -> x.note(0, s[0], 1, 1)), x -> x.holds(0, 0), s[1]);
                edge.tells(what + " not stopped", and(house, x -> x.note(0, s[0], 1, 0)), x -> x.holds(0, 0), 7 - s[1]);
            }
        }
    }

    private static void promise27Deputies() {
        for (int wrong : new int[] {-1, 3, 6, LEAST, GREATEST}) {
            edge.bad("27 tryNext(" + wrong + ") of three", Houses::ordinary, x -> x.tryNext(wrong));
        }
        edge.bad("27 without deputies", Houses::fresh, x -> x.tryNext(0));
        edge.bad("27 tryNext(6) of six", Houses::full, x -> x.tryNext(6));
        edge.tells("27 the last of six", () -> Houses.plain(6), x -> x.tryNext(5), 1);
    }

    private static void promise27None() {
        edge.tells("27 no kind", and(one(1, PLAIN, 0, 0), x -> x.note(0, 0, 1, 1)), x -> x.tryNext(0), NONE);
        edge.tells("27 no kind, the fifth of six", Houses::full, x -> x.tryNext(4), NONE);
        edge.tells("27 one kind: any bundle, so the least", and(one(1, PLAIN, 0, 1), x -> x.note(0, 1, 1, 0)),
            x -> x.tryNext(0), 1);
    }

    private static void promise27OfLikeOnes() {
        edge.tells("27 nothing parts them: the least", one(2, PLAIN, 0, 128), x -> x.tryNext(0), 1);
        edge.tells("27 the last law parts them", one(1, PLAIN, 0, 128), x -> x.tryNext(0), 128);
        edge.tells("27 on day 0 any law does", one(0, PLAIN, 0, 128), x -> x.tryNext(0), 1);
        edge.tells("27 on day 101 the last law does", and(and(one(99, PLAIN, 0, 128), x -> x.end()), x -> x.end()),
            x -> x.tryNext(0), 128);
        // Law 0 with 7: plain, proud, poor, kept against timid, late.
        edge.tells("27 four against two", one(1, PLAIN, 1, 128), x -> x.tryNext(0), 129);
        edge.tells("27 the last two laws alone part them so", one(0, PLAIN, 64, 128), x -> x.tryNext(0), 192);
        // Three loved laws with two hated: proud, kept against four, too, but it is no better.
        edge.tells("27 of like ones the least", one(1, PLAIN, 7, 192), x -> x.tryNext(0), 65);
        edge.tells("27 one who is bought", and(one(1, PLAIN, 0, 128), x -> x.buy(0)), x -> x.tryNext(0), 128);
        edge.tells("27 one who is locked", and(one(1, PLAIN, 0, 128), x -> x.lock(0)), x -> x.tryNext(0), 128);
    }

    private static void promise28Numbers() {
        for (int wrong : new int[] {-1, 256, LEAST, GREATEST}) {
            edge.bad("28 away(" + wrong + ", 5)", Houses::ordinary, x -> x.away(wrong, 5));
            edge.bad("28 away(" + wrong + ", 0) without deputies", Houses::fresh, x -> x.away(wrong, 0));
        }
        for (int wrong : new int[] {-1, 11, LEAST, GREATEST}) {
            edge.bad("28 away(1, " + wrong + ")", Houses::ordinary, x -> x.away(1, wrong));
            edge.bad("28 away(0, " + wrong + ") without deputies", Houses::fresh, x -> x.away(0, wrong));
        }
    }

    private static void fraction(String what, Supplier<VetoHouse> house, int bundle, int c, long above, long below) {
        VetoHouse x = edge.does("28 " + what + ", away(" + bundle + ", " + c + ")", house, y -> y.away(bundle, c), 1);
        edge.is("28 " + what + ", " + c + " of 10: above", x.part(0), above);
        edge.is("28 " + what + ", " + c + " of 10: below", x.part(1), below);
    }

    /** So many stop law 0. */
    private static Supplier<VetoHouse> stoppers(int many) {
        return () -> {
            VetoHouse x = Houses.fresh();
            for (int i = 0; i < 6; i++) {
                x.deputy(PLAIN, 0, i < many ? 1 : 0, 0);
            }
            return x;
        };
    }

    private static void promise28LowestTerms() {
        long[][] one = {{0, 1}, {1, 10}, {1, 5}, {3, 10}, {2, 5}, {1, 2}, {3, 5}, {7, 10}, {4, 5}, {9, 10}, {1, 1}};
        for (int c = 0; c <= 10; c++) {
            long above = 1;
            long below = 1;
            for (int many = 0; many <= 6; many++) {
                fraction(many + " stop it", stoppers(many), 1, c, above, below);
                above *= one[c][0];
                below *= one[c][1];
            }
        }
        fraction("six stop it", stoppers(6), 1, 1, 1, 1000000);
        fraction("six stop it", stoppers(6), 1, 9, 531441, 1000000);
        fraction("six stop it", stoppers(6), 1, 8, 4096, 15625);
        fraction("six stop it", stoppers(6), 1, 5, 1, 64);
    }

    private static void promise28NobodyOrAll() {
        fraction("no deputies", Houses::fresh, 255, 0, 1, 1);
        fraction("no deputies", Houses::fresh, 255, 10, 1, 1);
        fraction("no laws", stoppers(6), 0, 0, 1, 1);
        fraction("no laws", stoppers(6), 0, 10, 1, 1);
        fraction("all laws", stoppers(6), 255, 0, 0, 1);
        fraction("all laws", stoppers(6), 255, 10, 1, 1);
        fraction("one is bought", and(stoppers(6), x -> x.buy(0)), 1, 1, 1, 100000);
        fraction("one is locked", and(stoppers(6), x -> x.lock(5)), 1, 1, 1, 100000);
        fraction("the one is bought", and(stoppers(1), x -> x.buy(0)), 1, 0, 1, 1);
        VetoHouse x = Houses.full();
        long counts = x.count(0) + x.count(1) + x.count(5) + x.count(6);
        x.away(128, 0);
        edge.is("28 the fraction then", x.part(0), 0);
        edge.is("28 nothing else is changed", x.count(0) + x.count(1) + x.count(5) + x.count(6), counts);
        x.undo();
        edge.is("28 it is not undone", x.part(0), 0);
    }

    private static void promise29Numbers() {
        for (int wrong : new int[] {-1, 1000000, LEAST, GREATEST}) {
            edge.bad("29 diets(" + wrong + ", 0)", Houses::fresh, x -> x.diets(wrong, 0));
            edge.bad("29 diets(" + wrong + ", 30)", Houses::full, x -> x.diets(wrong, 30));
        }
        for (int wrong : new int[] {-1, 31, LEAST, GREATEST}) {
            edge.bad("29 diets(0, " + wrong + ")", Houses::fresh, x -> x.diets(0, wrong));
            edge.bad("29 diets(999999, " + wrong + ")", Houses::full, x -> x.diets(999999, wrong));
        }
    }

    private static void promise29SeedsAndTimes() {
        // By seed 0: X is 12345 (no laws), 1406932606 (220), 654583775 (4), 1449466924 (101), 229283573 (170).
        long[] by0 = {0, 0, 5, 5, 7, 8};
        // By seed 999999: X is 1751684876 (104), 836118613 (214), 1060586090 (55).
        long[] by999999 = {0, 3, 7, 8};
        for (int n = 0; n < by0.length; n++) {
            int times = n;
            edge.tells("29 seed 0, " + n + " times", Houses::fresh, x -> x.diets(0, times), by0[n]);
        }
        for (int n = 0; n < by999999.length; n++) {
            int times = n;
            edge.tells("29 seed 999999, " + n + " times", Houses::fresh, x -> x.diets(999999, times), by999999[n]);
        }
        edge.tells("29 seed 71: all laws at once", Houses::fresh, x -> x.diets(71, 1), 8);
        edge.tells("29 seed 528: the first law alone", Houses::fresh, x -> x.diets(528, 1), 1);
        edge.tells("29 seed 335: the last law alone", Houses::fresh, x -> x.diets(335, 1), 1);
        edge.tells("29 seed 335: it is stopped", one(1, PROUD, 0, 128), x -> x.diets(335, 1), 0);
        // One who stops all but law 0 alone, which comes for the first time at the 30th.
        edge.tells("29 29 times", one(1, PROUD, 0, 254), x -> x.diets(31, 29), 0);
        edge.tells("29 30 times", one(1, PROUD, 0, 254), x -> x.diets(31, 30), 1);
        edge.tells("29 the most of both", Houses::fresh, x -> x.diets(999999, 30), 8);
        edge.tells("29 he stops all", one(1, PLAIN, 0, 255), x -> x.diets(999999, 30), 0);
    }

    private static void promise29Sittings() {
        Supplier<VetoHouse> allInForce = and(and(Houses::fresh, x -> x.moves(255)), x -> x.end());
        edge.tells("29 no law is free", allInForce, x -> x.diets(71, 30), 8);
        edge.tells("29 none: in force as they are", Houses::full, x -> x.diets(0, 0), 2);
        edge.tells("29 none: passed ones are not in force", and(Houses::fresh, x -> x.moves(7)), x -> x.diets(0, 0), 0);
        edge.tells("29 no laws: the sitting ends", and(Houses::fresh, x -> x.moves(7)), x -> x.diets(0, 1), 3);
        edge.tells("29 of what is passed none is moved", and(Houses::fresh, x -> x.moves(7)), x -> x.diets(71, 1), 8);
        edge.tells("29 stopped: what is passed is undone", and(one(1, PROUD, 0, 128), x -> x.moves(7)),
            x -> x.diets(335, 1), 0);
        edge.tells("29 bought: it is passed", and(one(1, PROUD, 0, 128), x -> x.buy(0)), x -> x.diets(335, 1), 1);
        edge.tells("29 locked: it is passed", and(one(1, PROUD, 0, 128), x -> x.lock(0)), x -> x.diets(335, 1), 1);
        edge.tells("29 bought for one sitting alone", and(one(1, PROUD, 0, 220), x -> x.buy(0)), x -> x.diets(0, 2), 0);
        edge.tells("29 day 99, 100: stopped by a kept one", one(99, KEPT, 255, 0), x -> x.diets(0, 2), 0);
        edge.tells("29 day 98, 99: not stopped by a kept one", one(98, KEPT, 255, 0), x -> x.diets(0, 2), 5);
        edge.tells("29 day 0 by a kept one", one(0, KEPT, 255, 0), x -> x.diets(71, 1), 0);
        edge.tells("29 day 99 by a late one", one(99, LATE, 0, 255), x -> x.diets(71, 1), 8);
        edge.tells("29 day 98 by a late one", one(98, LATE, 0, 255), x -> x.diets(71, 1), 0);
    }

    /** By seed 1 the first laws are 1, 2, 6, 7 (X is 1103527590): what is not free then is no part of what is moved. */
    private static void promise29FreeOnesAlone() {
        Supplier<VetoHouse> force = and(and(Houses::fresh, x -> x.moves(2)), x -> x.end());
        edge.tells("29 hated, in force: not moved", and(force, x -> x.deputy(PLAIN, 0, 2, 0)), x -> x.diets(1, 1), 4);
        Supplier<VetoHouse> passed = and(Houses::fresh, x -> x.moves(2));
        edge.tells("29 hated, passed: not moved", and(passed, x -> x.deputy(PLAIN, 0, 2, 0)), x -> x.diets(1, 1), 4);
        Supplier<VetoHouse> two = and(and(Houses::fresh, x -> x.moves(6)), x -> x.end());
        edge.tells("29 loved, in force: no help", and(two, x -> x.deputy(PLAIN, 6, 64, 0)), x -> x.diets(1, 1), 2);
        edge.tells("29 loved, free: they help", and(Houses::fresh, x -> x.deputy(PLAIN, 6, 64, 0)),
            x -> x.diets(1, 1), 4);
        // By seed 0 laws 3 and 7, hated, are in force from day 1, an odd one, on; on day 4 they come again, with law 1.
        edge.tells("29 put in force by a diet, then not moved", one(0, LATE, 0, 136), x -> x.diets(0, 4), 7);
        edge.tells("29 put in force by a diet, then not moved", one(0, LATE, 0, 136), x -> x.diets(0, 5), 8);
    }
}
