import java.util.function.Supplier;
import java.util.function.ToLongFunction;

/** Promises 15 to 22 at their boundaries: stops, most, money, tied, alone, league, courts, gone. */
public final class PassEdgeTest {
    private static final int LEAST = Integer.MIN_VALUE;
    private static final int GREATEST = Integer.MAX_VALUE;
    private static final int NONE = -1;
    private static final int PLAIN = 0, PROUD = 1, TIMID = 2, POOR = 3, LATE = 4, KEPT = 5;
    private static final Edge edge = new Edge("PassEdgeTest");

    public static void main(String[] args) {
        promise15Bundles();
        promise15JoyAtZero();
        promise15OneHated();
        promise15Days();
        promise15NoLaws();
        promise15BoughtOrLocked();
        promise16Most();
        promise16OfLikeOnes();
        promise17MoneyAndWhats();
        promise17JustEnough();
        promise17AtMost200();
        promise17OfLikeOnes();
        promise18TwoLawsAtLeast();
        promise18Parts();
        promise18None();
        promise19Alone();
        promise20MoreThanHalf();
        promise20JoyAboveZero();
        promise21Courts();
        promise21LockedAndBought();
        promise22Gone();
        promise22None();
        edge.finish();
    }

    private static Supplier<VetoHouse> one(int day, int kind, int love, int hate) {
        return () -> Houses.one(day, kind, love, hate, 0);
    }

    private static Supplier<VetoHouse> and(Supplier<VetoHouse> house, ToLongFunction<VetoHouse> call) {
        return Houses.behind(house, call);
    }

    private static Supplier<VetoHouse> allInForce(Supplier<VetoHouse> house) {
        return and(and(house, x -> x.moves(255)), x -> x.end());
    }

    private static void promise15Bundles() {
        edge.tells("15 no deputies", Houses::fresh, x -> x.stops(255), 0);
        edge.tells("15 the first deputy", one(1, PLAIN, 0, 1), x -> x.stops(1), 1);
        edge.tells("15 the last deputy", and(() -> Houses.plain(5), x -> x.deputy(PLAIN, 0, 128, 0)),
            x -> x.stops(128), 32);
        Supplier<VetoHouse> onDay5 = and(Houses::crowded, x -> x.end());
        edge.tells("15 all but the late one", onDay5, x -> x.stops(128), 47);
        edge.tells("15 all six", and(onDay5, x -> x.end()), x -> x.stops(128), 63);
        edge.tells("15 a law in force", Houses::ordinary, x -> x.stops(32 | 8), 1);
        for (int wrong : new int[] {-1, 256, LEAST, GREATEST}) {
            edge.bad("15 stops(" + wrong + ") without deputies", Houses::fresh, x -> x.stops(wrong));
            edge.bad("15 stops(" + wrong + ")", Houses::full, x -> x.stops(wrong));
        }
    }

    /** Loves laws 0, 1, 2, hates 3, 4: joy of 0 is not below 0, of -1 is. */
    private static void promise15JoyAtZero() {
        stopsBy(PLAIN, 2, 31, 0, 0);
        stopsBy(PLAIN, 2, 9, -1, 1);
        stopsBy(POOR, 2, 31, 0, 0);
        stopsBy(POOR, 2, 9, -1, 1);
        stopsBy(TIMID, 2, 27, 0, 0);
        stopsBy(TIMID, 2, 8, -1, 1);
        stopsBy(LATE, 2, 27, 0, 0);
        stopsBy(LATE, 2, 8, -1, 1);
        stopsBy(PROUD, 2, 7, 6, 0);
        stopsBy(KEPT, 2, 7, 6, 0);
        stopsBy(PLAIN, 2, 128, 0, 0);
        stopsBy(PROUD, 2, 128, 0, 0);
    }

    private static void stopsBy(int kind, int day, int bundle, int joy, int stops) {
        String who = "15 kind " + kind + " on day " + day + ", bundle " + bundle;
        edge.tells(who + ": joy", one(day, kind, 7, 24), x -> x.joy(0, bundle), joy);
        edge.tells(who + ": stops", one(day, kind, 7, 24), x -> x.stops(bundle), stops);
    }

    private static void promise15OneHated() {
        stopsBy(PROUD, 2, 15, 3, 1);
        stopsBy(KEPT, 2, 15, 3, 1);
        stopsBy(PLAIN, 2, 15, 3, 0);
        stopsBy(TIMID, 2, 15, 5, 0);
        edge.tells("15 a proud one, of a law of both", one(1, PROUD, 1, 1), x -> x.stops(1), 1);
        edge.tells("15 a timid one, of a law of both", one(1, TIMID, 1, 1), x -> x.stops(1), 0);
    }

    private static void promise15Days() {
        for (int day = 0; day <= 99; day++) {
            edge.tells("15 a late one, day " + day, one(day, LATE, 0, 1), x -> x.stops(1), day % 2 == 1 ? 0 : 1);
            edge.tells("15 a kept one, day " + day, one(day, KEPT, 1, 0), x -> x.stops(1), day % 5 == 0 ? 1 : 0);
            edge.tells("15 a kept one, one hated, day " + day, one(day, KEPT, 0, 1), x -> x.stops(1), 1);
            edge.tells("15 a timid one, day " + day, one(day, TIMID, 0, 1), x -> x.stops(1), 1);
            edge.tells("15 a proud one, day " + day, one(day, PROUD, 1, 0), x -> x.stops(1), 0);
        }
        edge.tells("15 a late one, day 100", and(one(99, LATE, 0, 1), x -> x.end()), x -> x.stops(1), 1);
        edge.tells("15 a kept one, day 100", and(one(99, KEPT, 1, 0), x -> x.end()), x -> x.stops(1), 1);
    }

    private static void promise15NoLaws() {
        for (int kind = 0; kind < 6; kind++) {
            edge.tells("15 no laws, kind " + kind, one(0, kind, 0, 255), x -> x.stops(0), 0);
        }
        edge.tells("15 no laws, a full house", and(Houses::full, x -> x.end()), x -> x.stops(0), 0);
    }

    private static void promise15BoughtOrLocked() {
        edge.tells("15 bought", and(one(0, KEPT, 0, 1), x -> x.buy(0)), x -> x.stops(1), 0);
        edge.tells("15 locked", and(one(0, KEPT, 0, 1), x -> x.lock(0)), x -> x.stops(1), 0);
        edge.tells("15 both", and(and(one(0, KEPT, 0, 1), x -> x.lock(0)), x -> x.buy(0)), x -> x.stops(1), 0);
        edge.tells("15 bought in another sitting", and(and(one(0, KEPT, 0, 1), x -> x.buy(0)), x -> x.end()),
            x -> x.stops(1), 1);
    }

    private static void promise16Most() {
        edge.tells("16 without deputies", Houses::fresh, x -> x.most(), 255);
        edge.tells("16 nothing: he stops all", one(0, KEPT, 255, 0), x -> x.most(), 0);
        edge.tells("16 nothing: he hates all", one(1, PLAIN, 0, 255), x -> x.most(), 0);
        edge.tells("16 nothing: all passed", and(Houses::fresh, x -> x.moves(255)), x -> x.most(), 0);
        edge.tells("16 nothing: all in force", allInForce(Houses::fresh), x -> x.most(), 0);
        edge.tells("16 the one free law", and(Houses::fresh, x -> x.moves(127)), x -> x.most(), 128);
        edge.tells("16 the one law not hated, the first", one(1, PROUD, 0, 254), x -> x.most(), 1);
        edge.tells("16 the one law not hated, the last", one(1, PROUD, 0, 127), x -> x.most(), 128);
        edge.tells("16 all: he is bought", and(one(1, PLAIN, 0, 255), x -> x.buy(0)), x -> x.most(), 255);
        edge.tells("16 all: he is locked", and(one(1, PLAIN, 0, 255), x -> x.lock(0)), x -> x.most(), 255);
        edge.tells("16 free laws alone", Houses::ordinary, x -> x.most(), 255 - 96);
    }

    private static void promise16OfLikeOnes() {
        edge.tells("16 one hated for two loved, the least", one(1, PLAIN, 192, 7), x -> x.most(), 249);
        Supplier<VetoHouse> lawInForce = and(and(and(one(1, PLAIN, 192, 14), x -> x.buy(0)), x -> x.moves(2)),
            x -> x.end());
        edge.tells("16 one hated for two loved, the least free", lawInForce, x -> x.most(), 245);
        edge.tells("16 two hated for three loved, the least", one(1, PLAIN, 7, 248), x -> x.most(), 31);
        edge.tells("16 the first and the last are stopped", and(one(1, PROUD, 0, 1), x -> x.deputy(PROUD, 0, 128, 0)),
            x -> x.most(), 126);
    }

    private static void money(String what, Supplier<VetoHouse> house, int m, int bundle, int cost, int who) {
        edge.tells("17 " + what + ": money(" + m + ", 0)", house, x -> x.money(m, 0), bundle);
        edge.tells("17 " + what + ": money(" + m + ", 1)", house, x -> x.money(m, 1), cost);
        edge.tells("17 " + what + ": money(" + m + ", 2)", house, x -> x.money(m, 2), who);
    }

    private static void promise17MoneyAndWhats() {
        for (int wrong : new int[] {-1, 201, LEAST, GREATEST}) {
            edge.bad("17 money(" + wrong + ", 0)", Houses::ordinary, x -> x.money(wrong, 0));
            edge.bad("17 money(" + wrong + ", 2)", Houses::fresh, x -> x.money(wrong, 2));
        }
        for (int wrong : new int[] {-1, 3, LEAST, GREATEST}) {
            edge.bad("17 money(0, " + wrong + ")", Houses::ordinary, x -> x.money(0, wrong));
            edge.bad("17 money(200, " + wrong + ")", Houses::fresh, x -> x.money(200, wrong));
        }
        money("no deputies", Houses::fresh, 0, 255, 0, 0);
        money("no deputies", Houses::fresh, 200, 255, 0, 0);
        money("no free laws", allInForce(Houses::fresh), 200, 0, 0, 0);
        money("he stops all, and is too dear", () -> Houses.one(0, KEPT, 0, 0, 40), 79, 0, 0, 0);
        money("he stops all, and is not too dear", () -> Houses.one(0, KEPT, 0, 0, 40), 80, 255, 80, 1);
    }

    private static void promise17JustEnough() {
        Supplier<VetoHouse> seven = () -> Houses.one(1, PLAIN, 0, 1, 7);
        money("one too little", seven, 6, 254, 0, 0);
        money("just enough", seven, 7, 255, 7, 1);
        Supplier<VetoHouse> poor = () -> Houses.one(1, POOR, 0, 1, 7);
        money("half of 7, one too little", poor, 3, 254, 0, 0);
        money("half of 7, cut up", poor, 4, 255, 4, 1);
        Supplier<VetoHouse> kept = () -> Houses.one(1, KEPT, 0, 1, 7);
        money("twice 7, one too little", kept, 13, 254, 0, 0);
        money("twice 7", kept, 14, 255, 14, 1);
        Supplier<VetoHouse> free = () -> Houses.one(1, PLAIN, 0, 1, 0);
        money("one who costs nothing", free, 0, 255, 0, 1);
        edge.tells("17 he stops it nevertheless", free, x -> x.most(), 254);
        money("one who is bought", and(seven, x -> x.buy(0)), 0, 255, 0, 0);
        money("one who is locked", and(seven, x -> x.lock(0)), 0, 255, 0, 0);
    }

    private static void promise17AtMost200() {
        Supplier<VetoHouse> of200 = and(and(() -> Houses.one(1, KEPT, 0, 1, 40), x -> x.deputy(KEPT, 0, 1, 40)),
            x -> x.deputy(PLAIN, 0, 1, 40));
        money("200, one too little", of200, 199, 254, 0, 0);
        money("200, just enough", of200, 200, 255, 200, 7);
        Supplier<VetoHouse> of201 = and(of200, x -> x.deputy(POOR, 0, 1, 1));
        money("201 can not be had", of201, 200, 254, 0, 0);
        Supplier<VetoHouse> six = () -> {
            VetoHouse x = Houses.fresh();
            x.house(1);
            for (int i = 0; i < 6; i++) {
                x.deputy(KEPT, 0, 1 << i, 40);
            }
            return x;
        };
        money("two of six", six, 200, 192 | 3, 160, 3);
    }

    private static void promise17OfLikeOnes() {
        Supplier<VetoHouse> two = and(() -> Houses.one(1, PLAIN, 0, 1, 10), x -> x.deputy(PLAIN, 0, 2, 1));
        money("none", two, 0, 252, 0, 0);
        money("the cheap one", two, 9, 254, 1, 2);
        money("the least bits, though dearer", two, 10, 253, 10, 1);
        money("both", two, 11, 255, 11, 3);
    }

    private static void promise18TwoLawsAtLeast() {
        for (int law = 0; law < 8; law++) {
            int bundle = 1 << law;
            edge.bad("18 law " + law + " alone", Houses::fresh, x -> x.tied(bundle));
        }
        for (int wrong : new int[] {0, -1, 256, 256 | 3, LEAST, GREATEST}) {
            edge.bad("18 tied(" + wrong + ") without deputies", Houses::fresh, x -> x.tied(wrong));
            edge.bad("18 tied(" + wrong + ")", Houses::full, x -> x.tied(wrong));
        }
        edge.tells("18 the first two", Houses::fresh, x -> x.tied(3), 1);
        edge.tells("18 the last two", Houses::fresh, x -> x.tied(192), 64);
        edge.tells("18 the first and the last", Houses::fresh, x -> x.tied(129), 1);
        edge.tells("18 all", Houses::fresh, x -> x.tied(255), 1);
        edge.tells("18 laws that are not free", allInForce(Houses::fresh), x -> x.tied(3), 1);
    }

    private static void promise18Parts() {
        edge.tells("18 the part with the least law", one(1, PLAIN, 6, 1), x -> x.tied(15), 7);
        edge.tells("18 the least of like ones", one(1, PLAIN, 0, 0), x -> x.tied(12), 4);
        edge.tells("18 the least that goes", one(1, PLAIN, 12, 1), x -> x.tied(31), 13);
        Supplier<VetoHouse> three = and(and(one(1, PLAIN, 6, 1), x -> x.deputy(PLAIN, 24, 1, 0)),
            x -> x.deputy(PLAIN, 96, 1, 0));
        edge.tells("18 all but one", three, x -> x.tied(255), 127);
        edge.tells("18 the other part is looked at, too", one(1, PLAIN, 6, 8), x -> x.tied(15), 1);
        edge.tells("18 by one who is bought", and(one(1, PLAIN, 0, 255), x -> x.buy(0)), x -> x.tied(3), 1);
        edge.tells("18 by one who is locked", and(one(1, PLAIN, 0, 255), x -> x.lock(0)), x -> x.tied(3), 1);
    }

    private static void promise18None() {
        edge.tells("18 one part is stopped", one(1, PROUD, 0, 1), x -> x.tied(3), NONE);
        edge.tells("18 the other part is stopped", one(1, PROUD, 0, 2), x -> x.tied(3), NONE);
        edge.tells("18 together they pass, ..", one(1, PLAIN, 3, 4), x -> x.stops(7), 0);
        edge.tells("18 .. in two parts they do not", one(1, PLAIN, 3, 4), x -> x.tied(7), NONE);
        edge.tells("18 the rest of each part that passes is stopped", one(1, PLAIN, 6, 9), x -> x.tied(15), NONE);
        edge.tells("18 the least law passes, no part of more does", one(1, PLAIN, 0, 2), x -> x.tied(7), NONE);
        edge.tells("18 all is stopped", one(0, KEPT, 255, 0), x -> x.tied(255), NONE);
    }

    private static void promise19Alone() {
        edge.tells("19 without deputies", Houses::fresh, x -> x.alone(), 255);
        edge.tells("19 none", one(0, KEPT, 255, 0), x -> x.alone(), 0);
        edge.tells("19 none but by joy", one(1, PLAIN, 255, 255), x -> x.alone(), 0);
        edge.tells("19 joy of 1", one(1, TIMID, 255, 255), x -> x.alone(), 255);
        edge.tells("19 joy of -1", one(1, TIMID, 0, 255), x -> x.alone(), 0);
        edge.tells("19 but the first and the last", one(1, PROUD, 0, 129), x -> x.alone(), 126);
        edge.tells("19 the first and the last", one(1, PROUD, 0, 126), x -> x.alone(), 129);
        edge.tells("19 laws in force, too", allInForce(Houses::fresh), x -> x.alone(), 255);
        edge.tells("19 one who is bought", and(one(1, PLAIN, 0, 255), x -> x.buy(0)), x -> x.alone(), 255);
        edge.tells("19 one who is locked", and(one(1, PLAIN, 0, 255), x -> x.lock(0)), x -> x.alone(), 255);
    }

    /** So many of all love laws 0 and 7. */
    private static Supplier<VetoHouse> lovers(int many, int all) {
        return () -> {
            VetoHouse x = Houses.fresh();
            for (int i = 0; i < all; i++) {
                x.deputy(PLAIN, i < many ? 129 : 0, 0, 0);
            }
            return x;
        };
    }

    private static void promise20MoreThanHalf() {
        edge.tells("20 no deputies", Houses::fresh, x -> x.league(), 0);
        for (int all = 1; all <= 6; all++) {
            for (int many = 0; many <= all; many++) {
                boolean enough = many > all - many;
                edge.tells("20 " + many + " of " + all, lovers(many, all), x -> x.league(), enough ? 129 : 0);
            }
        }
        edge.tells("20 one is bought", and(lovers(1, 1), x -> x.buy(0)), x -> x.league(), 129);
        edge.tells("20 one is locked", and(lovers(1, 1), x -> x.lock(0)), x -> x.league(), 129);
        edge.tells("20 half of all, one of them locked", and(lovers(1, 2), x -> x.lock(1)), x -> x.league(), 0);
        edge.tells("20 half of all, one of them bought", and(lovers(1, 2), x -> x.buy(1)), x -> x.league(), 0);
        edge.tells("20 laws in force, too", allInForce(lovers(1, 1)), x -> x.league(), 129);
    }

    private static void promise20JoyAboveZero() {
        edge.tells("20 joy of 0", one(0, PLAIN, 0, 0), x -> x.league(), 0);
        edge.tells("20 joy of 2", one(0, PLAIN, 255, 0), x -> x.league(), 255);
        edge.tells("20 joy of -1, of both", one(0, PLAIN, 255, 255), x -> x.league(), 0);
        edge.tells("20 joy of 1, of both, a timid one", one(0, TIMID, 255, 255), x -> x.league(), 255);
        edge.tells("20 joy of 2, of neither, a timid one", one(0, TIMID, 0, 0), x -> x.league(), 255);
        edge.tells("20 joy of -1, a timid one", one(0, TIMID, 0, 255), x -> x.league(), 0);
        edge.tells("20 joy alone counts, not who stops", one(0, KEPT, 255, 0), x -> x.league(), 255);
    }

    /** So many of all, plain ones, stop law 0. */
    private static Supplier<VetoHouse> stoppers(int many, int all) {
        return () -> {
            VetoHouse x = Houses.fresh();
            for (int i = 0; i < all; i++) {
                x.deputy(PLAIN, 0, i < many ? 1 : 0, 0);
            }
            return x;
        };
    }

    private static void promise21Courts() {
        edge.tells("21 no deputies, no laws", Houses::fresh, x -> x.courts(0), 1);
        edge.tells("21 no deputies", Houses::fresh, x -> x.courts(1), 1);
        edge.tells("21 no deputies, all laws", Houses::fresh, x -> x.courts(255), 1);
        edge.tells("21 one, who does not stop it", stoppers(0, 1), x -> x.courts(1), 2);
        edge.tells("21 one, who stops it", stoppers(1, 1), x -> x.courts(1), 2);
        for (int all = 2; all <= 6; all++) {
            // One stopper: whoever else is hired, the first can not buy both; two: he can not anyhow.
            int pairs = (all + 1) * (all + 1);
            edge.tells("21 none of " + all + " stops it", stoppers(0, all), x -> x.courts(1), 0);
            edge.tells("21 one of " + all + " stops it", stoppers(1, all), x -> x.courts(1), (all - 1) * (all + 1));
            edge.tells("21 two of " + all + " stop it", stoppers(2, all), x -> x.courts(1), pairs);
            edge.tells("21 all of " + all + " stop it", stoppers(all, all), x -> x.courts(1), pairs);
            edge.tells("21 no laws, " + all, stoppers(all, all), x -> x.courts(0), pairs);
        }
        for (int wrong : new int[] {-1, 256, LEAST, GREATEST}) {
            edge.bad("21 courts(" + wrong + ") without deputies", Houses::fresh, x -> x.courts(wrong));
            edge.bad("21 courts(" + wrong + ")", Houses::full, x -> x.courts(wrong));
        }
    }

    private static void promise21LockedAndBought() {
        edge.tells("21 the one is locked", and(stoppers(1, 1), x -> x.lock(0)), x -> x.courts(1), 4);
        edge.tells("21 the one is bought", and(stoppers(1, 1), x -> x.buy(0)), x -> x.courts(1), 2);
        edge.tells("21 the one is both", and(and(stoppers(1, 1), x -> x.lock(0)), x -> x.buy(0)), x -> x.courts(1), 4);
        edge.tells("21 no laws, the one is bought", and(stoppers(1, 1), x -> x.buy(0)), x -> x.courts(0), 4);
        // The stopper, bought by the first, leaves nobody to be hired where the other one is locked.
        edge.tells("21 one of two stops it, the other is locked", and(stoppers(1, 2), x -> x.lock(1)),
            x -> x.courts(1), 3);
        edge.tells("21 one of two stops it, the other is bought", and(stoppers(1, 2), x -> x.buy(1)),
            x -> x.courts(1), 3);
        edge.tells("21 two of two, one is locked", and(stoppers(2, 2), x -> x.lock(0)), x -> x.courts(1), 3);
        edge.tells("21 two of two, one is bought", and(stoppers(2, 2), x -> x.buy(0)), x -> x.courts(1), 3);
    }

    private static void gone(String what, Supplier<VetoHouse> house, int which, int laws) {
        edge.tells("22 " + what + ": which", house, x -> x.gone(0), which);
        edge.tells("22 " + what + ": how many laws", house, x -> x.gone(1), laws);
    }

    private static void promise22Gone() {
        gone("one", one(1, PLAIN, 0, 255), 0, 8);
        gone("one who stops nothing", one(1, PLAIN, 0, 0), 0, 8);
        gone("of like ones the first", () -> Houses.plain(6), 0, 8);
        gone("two who stop all: none is to be had", and(one(0, KEPT, 0, 0), x -> x.deputy(KEPT, 0, 0, 0)), 0, 0);
        gone("the last one", and(() -> Houses.plain(5), x -> x.deputy(PLAIN, 0, 1, 0)), 5, 8);
        gone("a law more", and(one(1, PLAIN, 0, 1), x -> x.deputy(PLAIN, 0, 6, 0)), 1, 7);
        gone("as many laws", and(one(1, PLAIN, 0, 6), x -> x.deputy(PLAIN, 0, 24, 0)), 0, 6);
        gone("no free laws", allInForce(() -> Houses.plain(2)), 0, 0);
        gone("besides one who is", and(and(one(1, PLAIN, 0, 1), x -> x.deputy(PLAIN, 0, 6, 0)), x -> x.lock(0)), 1, 8);
        gone("one who is, again", and(one(1, PLAIN, 0, 1), x -> x.lock(0)), 0, 8);
        gone("besides one who is bought", and(and(one(1, PLAIN, 0, 6), x -> x.deputy(PLAIN, 0, 1, 0)), x -> x.buy(0)),
            1, 8);
    }

    private static void promise22None() {
        gone("no deputies", Houses::fresh, NONE, NONE);
        gone("no deputies, all laws in force", allInForce(Houses::fresh), NONE, NONE);
        for (int wrong : new int[] {-1, 2, LEAST, GREATEST}) {
            edge.bad("22 gone(" + wrong + ") without deputies", Houses::fresh, x -> x.gone(wrong));
            edge.bad("22 gone(" + wrong + ")", Houses::full, x -> x.gone(wrong));
        }
    }
}
