import java.util.function.Supplier;
import java.util.function.ToLongFunction;

/** Promises 7 to 14 at their boundaries: moves, end, buy, lock, undo, of, joy, acts. */
public final class SittingEdgeTest {
    private static final int LEAST = Integer.MIN_VALUE;
    private static final int GREATEST = Integer.MAX_VALUE;
    private static final Edge edge = new Edge("SittingEdgeTest");

    public static void main(String[] args) {
        promise7Bundles();
        promise7LawsThatAreNotFree();
        promise7WhoStops();
        promise7WhatIsUndone();
        promise7OneThingToUndo();
        promise8End();
        promise8DaysBehind99();
        promise9Deputies();
        promise9WhatOneCosts();
        promise9BoughtTwice();
        promise10Deputies();
        promise10OneAtMost();
        promise11None();
        promise11EachThing();
        promise11EightAtMost();
        promise11WhatIsNotUndone();
        promise12Of();
        promise13Joy();
        promise14Acts();
        edge.finish();
    }

    private static Supplier<VetoHouse> behind(Supplier<VetoHouse> house, ToLongFunction<VetoHouse> call) {
        return Houses.behind(house, call);
    }

    private static void promise7Bundles() {
        edge.is("7 the least is passed", edge.does("7 moves(1)", Houses::fresh, x -> x.moves(1), 0).acts(0), 1);
        edge.is("7 one law is passed", edge.does("7 moves(128)", Houses::fresh, x -> x.moves(128), 0).acts(0), 128);
        edge.is("7 all is passed", edge.does("7 moves(255)", Houses::fresh, x -> x.moves(255), 0).acts(0), 255);
        for (int wrong : new int[] {0, -1, 256, 257, -255, LEAST, GREATEST}) {
            edge.bad("7 moves(" + wrong + ") in a new one", Houses::fresh, x -> x.moves(wrong));
            edge.bad("7 moves(" + wrong + ")", Houses::ordinary, x -> x.moves(wrong));
            edge.bad("7 moves(" + wrong + ") in a full one", Houses::full, x -> x.moves(wrong));
        }
    }

    private static void promise7LawsThatAreNotFree() {
        edge.no("7 one in force", Houses::ordinary, x -> x.moves(32));
        edge.no("7 one passed", Houses::ordinary, x -> x.moves(64));
        edge.no("7 both", Houses::ordinary, x -> x.moves(96));
        edge.no("7 one in force with a free one", Houses::ordinary, x -> x.moves(32 | 128));
        edge.no("7 one passed with a free one", Houses::ordinary, x -> x.moves(64 | 128));
        edge.no("7 one passed with one that is stopped", Houses::ordinary, x -> x.moves(64 | 8));
        edge.no("7 all", Houses::ordinary, x -> x.moves(255));
        edge.bad("7 BAD goes ahead of NO", Houses::ordinary, x -> x.moves(256 | 32));
        Supplier<VetoHouse> allPassed = behind(Houses::fresh, x -> x.moves(255));
        Supplier<VetoHouse> allInForce = behind(allPassed, x -> x.end());
        for (int law = 0; law < 8; law++) {
            int bundle = 1 << law;
            edge.no("7 law " + law + " of all passed", allPassed, x -> x.moves(bundle));
            edge.no("7 law " + law + " of all in force", allInForce, x -> x.moves(bundle));
        }
        edge.bad("7 nothing where none is free", allInForce, x -> x.moves(0));
        edge.does("7 the last free one", behind(Houses::fresh, x -> x.moves(127)), x -> x.moves(128), 0);
        edge.does("7 all that are free", Houses::crowded, x -> x.moves(255 - 96 - 16 - 128), 0);
    }

    private static void promise7WhoStops() {
        edge.does("7 one stops it", () -> Houses.one(1, 0, 0, 1, 0), x -> x.moves(1), 1);
        Supplier<VetoHouse> six = () -> {
            VetoHouse x = Houses.fresh();
            for (int i = 0; i < 6; i++) {
                x.deputy(i, 0, 255, 0);
            }
            return x;
        };
        edge.does("7 all six stop it", six, x -> x.moves(255), 63);
        edge.does("7 the last one alone", behind(() -> Houses.plain(5), x -> x.deputy(0, 0, 128, 0)),
            x -> x.moves(128), 32);
        edge.does("7 joy of 0", () -> Houses.one(1, 0, 7, 24, 0), x -> x.moves(31), 0);
        edge.does("7 joy of -1", () -> Houses.one(1, 0, 1, 8, 0), x -> x.moves(9), 1);
        edge.does("7 one who is bought", behind(() -> Houses.one(1, 0, 0, 1, 0), x -> x.buy(0)), x -> x.moves(1), 0);
        edge.does("7 one who is locked", behind(() -> Houses.one(1, 0, 0, 1, 0), x -> x.lock(0)), x -> x.moves(1), 0);
    }

    private static void promise7WhatIsUndone() {
        VetoHouse x = edge.does("7 stopped", Houses::ordinary, y -> y.moves(8), 1);
        edge.is("7 what was passed is not", x.acts(0), 0);
        edge.is("7 nor is it in force", x.acts(1), 32);
        edge.is("7 the day is one more", x.count(1), 5);
        edge.is("7 nobody is bought", x.of(1, 5), 0);
        edge.is("7 nobody is locked", x.of(2, 6), 0);
        edge.is("7 spent stays", x.count(4), 10);
        edge.is("7 notes stay", x.count(5), 1);
        edge.is("7 no note comes of it", x.is(1), 63);
        edge.is("7 the undone law is free", x.moves(64), 0);
        VetoHouse nothing = edge.does("7 stopped with nothing passed", () -> Houses.one(1, 0, 0, 1, 0),
            y -> y.moves(1), 1);
        edge.is("7 nothing is passed", nothing.acts(0), 0);
        edge.is("7 nothing is in force", nothing.acts(1), 0);
        edge.is("7 the sitting ended", nothing.count(1), 2);
        VetoHouse passed = edge.does("7 passed", Houses::ordinary, y -> y.moves(128), 0);
        edge.is("7 with what was", passed.acts(0), 192);
        edge.is("7 the sitting goes on", passed.count(1), 4);
        edge.is("7 one is bought still", passed.of(1, 5), 1);
        edge.is("7 one is locked still", passed.of(2, 6), 1);
    }

    private static void promise7OneThingToUndo() {
        edge.is("7 passed: one more", edge.does("7 passed", Houses::ordinary, x -> x.moves(128), 0).count(6), 6);
        VetoHouse x = edge.does("7 stopped", Houses::ordinary, y -> y.moves(8), 1);
        edge.is("7 stopped: one more, not two", x.count(6), 6);
        edge.is("7 and one brings it back", x.undo(), 4);
        edge.is("7 all of it", x.acts(0), 64);
        edge.is("7 at eight they stay eight", edge.does("7 passed", Houses::crowded, y -> y.moves(1), 0).count(6), 8);
    }

    private static void promise8End() {
        VetoHouse none = edge.does("8 nothing passed, nothing in force", Houses::fresh, y -> y.end(), 0);
        edge.is("8 the day", none.count(1), 1);
        edge.is("8 one may be undone", none.count(6), 1);
        VetoHouse all = edge.does("8 all passed", behind(Houses::fresh, y -> y.moves(255)), y -> y.end(), 255);
        edge.is("8 nothing is passed", all.acts(0), 0);
        edge.is("8 all is in force", all.count(2), 8);
        edge.is("8 with nothing more", all.end(), 255);
        edge.is("8 a day more", all.count(1), 2);
        VetoHouse x = edge.does("8 with what was in force", Houses::full, y -> y.end(), 112);
        edge.is("8 the day", x.count(1), 5);
        edge.is("8 eight may be undone", x.count(6), 8);
        edge.is("8 spent stays", x.count(4), 110);
        edge.is("8 notes stay", x.count(5), 6);
        for (int i = 0; i < 6; i++) {
            edge.is("8 nobody is bought", x.of(i, 5), 0);
            edge.is("8 nobody is locked", x.of(i, 6), 0);
        }
    }

    private static void promise8DaysBehind99() {
        VetoHouse x = behind(Houses::fresh, y -> y.house(99)).get();
        x.deputy(4, 0, 1, 0);
        x.deputy(5, 1, 0, 0);
        edge.is("8 on day 99 neither", x.stops(1), 0);
        x.end();
        edge.is("8 day 100", x.count(1), 100);
        edge.is("8 on day 100 both", x.stops(1), 3);
        x.end();
        edge.is("8 on day 101 neither", x.stops(1), 0);
        for (int day = 102; day <= 300; day++) {
            x.end();
        }
        edge.is("8 day 300", x.count(1), 300);
        edge.is("8 on day 300 both", x.stops(1), 3);
        edge.is("8 back to day 299", x.undo(), 299);
    }

    private static void promise9Deputies() {
        edge.bad("9 without deputies", Houses::fresh, x -> x.buy(0));
        for (int wrong : new int[] {-1, 3, 6, 32, LEAST, GREATEST}) {
            edge.bad("9 buy(" + wrong + ") of three", Houses::ordinary, x -> x.buy(wrong));
        }
        for (int wrong : new int[] {-1, 6, 32, LEAST, GREATEST}) {
            edge.bad("9 buy(" + wrong + ") of six", Houses::full, x -> x.buy(wrong));
        }
        edge.is("9 the first", edge.does("9 buy(0)", () -> Houses.plain(6), x -> x.buy(0), 0).of(0, 5), 1);
        edge.is("9 the last", edge.does("9 buy(5)", () -> Houses.plain(6), x -> x.buy(5), 0).of(5, 5), 1);
        edge.is("9 nobody else", edge.does("9 buy(5)", () -> Houses.plain(6), x -> x.buy(5), 0).of(4, 5), 0);
        VetoHouse locked = edge.does("9 one who is locked", Houses::ordinary, x -> x.buy(2), 6);
        edge.is("9 he is locked still", locked.of(2, 6), 1);
        edge.is("9 spent", locked.count(4), 16);
        VetoHouse x = Houses.crowded();
        x.end();
        int[] costs = {40, 39, 38, 19, 36, 70};
        int spent = 110;
        for (int i = 0; i < 6; i++) {
            edge.is("9 all may be bought: " + i, x.buy(i), costs[i]);
            spent += costs[i];
            edge.is("9 spent", x.count(4), spent);
        }
        edge.is("9 then nobody stops anything", x.stops(255), 0);
    }

    private static void promise9WhatOneCosts() {
        int[] prices = {0, 1, 2, 39, 40};
        int[] poor = {0, 1, 1, 20, 20};
        for (int i = 0; i < prices.length; i++) {
            for (int kind = 0; kind < 6; kind++) {
                int k = kind;
                int price = prices[i];
                int cost = kind == 3 ? poor[i] : kind == 5 ? 2 * price : price;
                Supplier<VetoHouse> house = () -> Houses.one(1, k, 0, 0, price);
                edge.tells("12 kind " + k + " at " + price, house, y -> y.of(0, 4), cost);
                VetoHouse x = edge.does("9 kind " + k + " at " + price, house, y -> y.buy(0), cost);
                edge.is("9 spent of kind " + k + " at " + price, x.count(4), cost);
            }
        }
    }

    private static void promise9BoughtTwice() {
        edge.no("9 he is bought", Houses::ordinary, x -> x.buy(1));
        edge.no("9 one who costs nothing is bought", behind(() -> Houses.plain(1), x -> x.buy(0)), x -> x.buy(0));
        edge.no("9 he is bought in a full house", Houses::full, x -> x.buy(5));
        edge.does("9 in the next sitting", behind(Houses::ordinary, x -> x.end()), x -> x.buy(1), 10);
        edge.does("9 behind what was stopped", behind(Houses::ordinary, x -> x.moves(8)), x -> x.buy(1), 10);
        edge.is("9 spent twice", behind(behind(Houses::ordinary, x -> x.end()), x -> x.buy(1)).get().count(4), 20);
    }

    private static void promise10Deputies() {
        edge.bad("10 without deputies", Houses::fresh, x -> x.lock(0));
        for (int wrong : new int[] {-1, 3, 6, 32, LEAST, GREATEST}) {
            edge.bad("10 lock(" + wrong + ") of three", behind(Houses::ordinary, x -> x.end()), x -> x.lock(wrong));
            edge.bad("10 lock(" + wrong + ") while one is: BAD goes ahead of NO", Houses::ordinary, x -> x.lock(wrong));
        }
        edge.bad("10 lock(6) of six", () -> Houses.plain(6), x -> x.lock(6));
        edge.bad("10 lock(-1) of six", () -> Houses.plain(6), x -> x.lock(-1));
        edge.is("10 the first", edge.does("10 lock(0)", () -> Houses.plain(6), x -> x.lock(0), 1).of(0, 6), 1);
        edge.is("10 the last", edge.does("10 lock(5)", () -> Houses.plain(6), x -> x.lock(5), 1).of(5, 6), 1);
        edge.is("10 nobody else", edge.does("10 lock(5)", () -> Houses.plain(6), x -> x.lock(5), 1).of(4, 6), 0);
        VetoHouse dear = edge.does("10 a dear one", () -> Houses.one(1, 0, 0, 0, 40), x -> x.lock(0), 1);
        edge.is("10 it costs nothing", dear.count(4), 0);
    }

    private static void promise10OneAtMost() {
        edge.no("10 he is", Houses::ordinary, x -> x.lock(2));
        edge.no("10 somebody else is", Houses::ordinary, x -> x.lock(0));
        edge.no("10 somebody else is, one who is bought", Houses::ordinary, x -> x.lock(1));
        edge.no("10 in a full house he is", Houses::full, x -> x.lock(1));
        edge.no("10 in a full house another", Houses::full, x -> x.lock(5));
        edge.does("10 one who is bought", behind(() -> Houses.plain(1), x -> x.buy(0)), x -> x.lock(0), 1);
        edge.does("10 in the next sitting", behind(Houses::ordinary, x -> x.end()), x -> x.lock(2), 1);
        edge.does("10 behind what was stopped", behind(Houses::ordinary, x -> x.moves(8)), x -> x.lock(0), 1);
        edge.does("10 behind an undoing", behind(Houses::ordinary, x -> x.undo()), x -> x.lock(0), 1);
    }

    private static void promise11None() {
        edge.no("11 a new object", Houses::fresh, x -> x.undo());
        edge.no("11 behind a deputy", behind(Houses::ordinary, x -> x.deputy(0, 0, 0, 0)), x -> x.undo());
        edge.no("11 behind a house", behind(Houses::ordinary, x -> x.house(3)), x -> x.undo());
        edge.no("11 behind a house that was read", behind(Houses::ordinary, x -> x.read()), x -> x.undo());
        edge.no("11 behind all that may be", behind(behind(Houses::fresh, x -> x.end()), x -> x.undo()), x -> x.undo());
        edge.does("11 behind a fault they may be", behind(behind(Houses::ordinary, x -> x.type('x')), x -> x.read()),
            x -> x.undo(), 4);
        edge.does("11 behind a refused call they may be", behind(Houses::ordinary, x -> x.moves(0)), x -> x.undo(), 4);
        edge.does("11 behind a call that is NO they may be", behind(Houses::ordinary, x -> x.moves(32)),
            x -> x.undo(), 4);
        edge.is("11 an undoing is not undone", behind(Houses::ordinary, x -> x.undo()).get().count(6), 4);
    }

    /** Each thing, and the digest ahead of it, but for how many may be undone. */
    private static void promise11EachThing() {
        undoes("what is passed", x -> x.moves(128));
        undoes("what is stopped", x -> x.moves(8));
        undoes("an end", x -> x.end());
        undoes("a buying", x -> x.buy(0));
        undoes("a buying of one who is locked", x -> x.buy(2));
        VetoHouse x = behind(Houses::ordinary, y -> y.end()).get();
        long ahead = x.digest();
        x.lock(0);
        edge.is("11 a lock", x.undo(), 5);
        edge.is("11 all as ahead of a lock", x.digest(), ahead);
    }

    private static void undoes(String what, ToLongFunction<VetoHouse> thing) {
        VetoHouse x = Houses.ordinary();
        long ahead = x.digest();
        thing.applyAsLong(x);
        edge.is("11 " + what + ": one more may be undone", x.count(6), 6);
        edge.is("11 " + what + ": the day", x.undo(), 4);
        edge.is("11 " + what + ": all as ahead of it", x.digest(), ahead);
    }

    private static void promise11EightAtMost() {
        for (int many = 1; many <= 10; many++) {
            VetoHouse x = Houses.fresh();
            for (int i = 0; i < many; i++) {
                x.end();
            }
            int may = Math.min(many, 8);
            edge.is("11 how many of " + many, x.count(6), may);
            for (int i = 1; i <= may; i++) {
                edge.is("11 undo " + i + " of " + many, x.undo(), many - i);
                edge.is("11 how many then", x.count(6), may - i);
            }
            edge.is("11 no more of " + many, x.undo(), -3);
            edge.is("11 it is refused", Due.refused(x), 100);
            edge.is("11 the day stays", x.count(1), many - may);
        }
        VetoHouse mixed = Houses.full();
        for (int i = 0; i < 8; i++) {
            mixed.undo();
        }
        edge.is("11 a full house: the first thing stays", mixed.acts(0), 64);
        edge.is("11 its end does not", mixed.count(1), 1);
        edge.is("11 nothing is spent", mixed.count(4), 0);
        edge.is("11 no more", mixed.undo(), -3);
        mixed.end();
        edge.is("11 then one may be", mixed.count(6), 1);
    }

    private static void promise11WhatIsNotUndone() {
        VetoHouse x = Houses.crowded();
        x.end();
        x.forget();
        x.note(1, 2, 3, 0);
        x.type('a');
        x.away(0, 0);
        x.buy(9);
        x.image(0);
        edge.is("11 these are no things to undo", x.count(6), 8);
        edge.is("11 undo", x.undo(), 4);
        edge.is("11 notes stay", x.count(5), 1);
        edge.is("11 the text stays", x.count(7), 1);
        edge.is("11 the fraction stays", x.part(1), 1);
        edge.is("11 status stays", Due.refused(x), 10000);
        edge.is("11 deputies stay", x.count(0), 6);
        x.from(0);
        edge.is("11 the image stays", x.count(1), 5);
    }

    private static void promise12Of() {
        int[][] want = {{0, 7, 8, 9, 9, 0, 0}, {1, 0, 16, 10, 10, 1, 0}, {3, 1, 2, 11, 6, 0, 1}};
        for (int i = 0; i < want.length; i++) {
            for (int what = 0; what < 7; what++) {
                int d = i;
                int w = what;
                edge.tells("12 of(" + d + ", " + w + ")", Houses::ordinary, x -> x.of(d, w), want[d][w]);
            }
        }
        for (int wrong : new int[] {-1, 7, 8, LEAST, GREATEST}) {
            edge.bad("12 of(0, " + wrong + ")", Houses::ordinary, x -> x.of(0, wrong));
            edge.bad("12 of(5, " + wrong + ")", Houses::full, x -> x.of(5, wrong));
        }
        for (int wrong : new int[] {-1, 3, 6, LEAST, GREATEST}) {
            edge.bad("12 of(" + wrong + ", 0)", Houses::ordinary, x -> x.of(wrong, 0));
            edge.bad("12 of(" + wrong + ", 6)", Houses::ordinary, x -> x.of(wrong, 6));
        }
        for (int what = -1; what <= 7; what++) {
            int w = what;
            edge.bad("12 of(0, " + w + ") without deputies", Houses::fresh, x -> x.of(0, w));
            edge.bad("12 of(6, " + w + ") of six", Houses::full, x -> x.of(6, w));
        }
        edge.tells("12 the last one's kind", Houses::full, x -> x.of(5, 0), 5);
        edge.tells("12 the last one's love", Houses::full, x -> x.of(5, 1), 32);
        edge.tells("12 the last one is bought", Houses::full, x -> x.of(5, 5), 1);
        edge.tells("12 the last one is not locked", Houses::full, x -> x.of(5, 6), 0);
        edge.tells("12 one is locked", Houses::full, x -> x.of(1, 6), 1);
    }

    private static void promise13Joy() {
        int[] more = {0, 0, 2, 0, 2, 0};
        for (int kind = 0; kind < 6; kind++) {
            int k = kind;
            edge.tells("13 of no laws", () -> Houses.one(1, k, 255, 255, 0), x -> x.joy(0, 0), more[k]);
            edge.tells("13 all loved", () -> Houses.one(1, k, 255, 0, 0), x -> x.joy(0, 255), 16 + more[k]);
            edge.tells("13 all hated", () -> Houses.one(1, k, 0, 255, 0), x -> x.joy(0, 255), -24 + more[k]);
            edge.tells("13 all of both", () -> Houses.one(1, k, 255, 255, 0), x -> x.joy(0, 255), -8 + more[k]);
            edge.tells("13 all of neither", () -> Houses.one(1, k, 0, 0, 0), x -> x.joy(0, 255), more[k]);
            edge.tells("13 -4 or -2, and not refused", () -> Houses.one(1, k, 2, 5, 0), x -> x.joy(0, 7),
                -4 + more[k]);
        }
        edge.tells("13 one who is bought", Houses::ordinary, x -> x.joy(1, 16), -3);
        edge.tells("13 one who is locked", Houses::ordinary, x -> x.joy(2, 3), -1);
        edge.tells("13 of laws that are not free", Houses::ordinary, x -> x.joy(0, 96 | 1), 2);
        for (int wrong : new int[] {-1, 256, LEAST, GREATEST}) {
            edge.refused("13 joy(0, " + wrong + ")", Houses::ordinary, x -> x.joy(0, wrong), -1000, 0);
        }
        for (int wrong : new int[] {-1, 3, 6, LEAST, GREATEST}) {
            edge.refused("13 joy(" + wrong + ", 1)", Houses::ordinary, x -> x.joy(wrong, 1), -1000, 0);
        }
        edge.refused("13 without deputies", Houses::fresh, x -> x.joy(0, 0), -1000, 0);
        edge.refused("13 joy(6, 0) of six", Houses::full, x -> x.joy(6, 0), -1000, 0);
        edge.refused("13 both wrong", Houses::full, x -> x.joy(6, 256), -1000, 0);
    }

    private static void promise14Acts() {
        edge.tells("14 nothing passed", Houses::fresh, x -> x.acts(0), 0);
        edge.tells("14 nothing in force", Houses::fresh, x -> x.acts(1), 0);
        edge.tells("14 one passed", Houses::ordinary, x -> x.acts(0), 64);
        edge.tells("14 one in force", Houses::ordinary, x -> x.acts(1), 32);
        edge.tells("14 all passed", behind(Houses::fresh, x -> x.moves(255)), x -> x.acts(0), 255);
        edge.tells("14 none of it in force", behind(Houses::fresh, x -> x.moves(255)), x -> x.acts(1), 0);
        Supplier<VetoHouse> ended = behind(behind(Houses::fresh, x -> x.moves(255)), x -> x.end());
        edge.tells("14 none passed behind an end", ended, x -> x.acts(0), 0);
        edge.tells("14 all in force", ended, x -> x.acts(1), 255);
        for (int wrong : new int[] {-1, 2, LEAST, GREATEST}) {
            edge.bad("14 acts(" + wrong + ")", Houses::ordinary, x -> x.acts(wrong));
            edge.bad("14 acts(" + wrong + ") of a new one", Houses::fresh, x -> x.acts(wrong));
        }
    }
}
