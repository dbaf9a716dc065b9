/** Promises 1 to 5 at their boundaries: a new object, house, deputy, type, clear. */
public final class HouseEdgeTest {
    private static final int LEAST = Integer.MIN_VALUE;
    private static final int GREATEST = Integer.MAX_VALUE;
    private static final Edge edge = new Edge("HouseEdgeTest");

    public static void main(String[] args) {
        promise1AllAtFirst();
        promise1NothingToAnswerWith();
        promise1ObjectsAreApart();
        promise2Days();
        promise2HowManyThereWere();
        promise2AllElseAsAtFirst();
        promise2WhatStays();
        promise3KindsLawsPrices();
        promise3SixAtMost();
        promise3ALawInBoth();
        promise3NeitherBoughtNorLocked();
        promise3NothingToUndoBehindIt();
        promise4Bytes();
        promise4FullAt150();
        promise5Clear();
        edge.finish();
    }

    private static void promise1AllAtFirst() {
        for (int what = 0; what <= 7; what++) {
            int w = what;
            edge.tells("1 count(" + w + ")", Houses::fresh, x -> x.count(w), 0);
        }
        for (int what = 0; what <= 2; what++) {
            int w = what;
            edge.tells("1 status(" + w + ")", Houses::fresh, x -> x.status(w), 0);
        }
        edge.tells("1 nothing passed", Houses::fresh, x -> x.acts(0), 0);
        edge.tells("1 nothing in force", Houses::fresh, x -> x.acts(1), 0);
        edge.tells("1 the fraction is 0 ..", Houses::fresh, x -> x.part(0), 0);
        edge.tells("1 .. by 1", Houses::fresh, x -> x.part(1), 1);
        edge.tells("1 all laws are free", Houses::fresh, x -> x.most(), 255);
    }

    private static void promise1NothingToAnswerWith() {
        edge.bad("1 no deputy 0", Houses::fresh, x -> x.of(0, 0));
        edge.no("1 nothing to undo", Houses::fresh, x -> x.undo());
        edge.no("1 no image 0", Houses::fresh, x -> x.from(0));
        edge.no("1 no image 1", Houses::fresh, x -> x.from(1));
        edge.tells("1 no text", Houses::fresh, x -> x.read(), -10);
        edge.tells("1 no text to clear", Houses::fresh, x -> x.clear(), 0);
        edge.tells("1 no notes to forget", Houses::fresh, x -> x.forget(), 0);
    }

    private static void promise1ObjectsAreApart() {
        VetoHouse x = Houses.fresh();
        long first = x.digest();
        Houses.full();
        edge.is("1 another object's house", x.digest(), first);
        edge.is("1 another object's image", x.from(0), -3);
        edge.is("1 another object's refusals", x.status(0) + x.status(2), 0);
    }

    private static void promise2Days() {
        edge.is("2 day 0", edge.does("2 house(0)", Houses::ordinary, x -> x.house(0), 3).count(1), 0);
        edge.is("2 day 1", edge.does("2 house(1)", Houses::ordinary, x -> x.house(1), 3).count(1), 1);
        edge.is("2 day 98", edge.does("2 house(98)", Houses::ordinary, x -> x.house(98), 3).count(1), 98);
        edge.is("2 day 99", edge.does("2 house(99)", Houses::ordinary, x -> x.house(99), 3).count(1), 99);
        for (int wrong : new int[] {-1, 100, LEAST, GREATEST}) {
            edge.bad("2 house(" + wrong + ") of a new one", Houses::fresh, x -> x.house(wrong));
            edge.bad("2 house(" + wrong + ")", Houses::ordinary, x -> x.house(wrong));
            edge.bad("2 house(" + wrong + ") of a full one", Houses::full, x -> x.house(wrong));
        }
    }

    private static void promise2HowManyThereWere() {
        for (int many = 0; many <= 6; many++) {
            int n = many;
            VetoHouse x = edge.does("2 there were " + n, () -> Houses.plain(n), y -> y.house(5), n);
            edge.is("2 there are none behind " + n, x.count(0), 0);
            edge.is("2 house again", x.house(5), 0);
        }
    }

    private static void promise2AllElseAsAtFirst() {
        VetoHouse x = edge.does("2 house(0) of a full one", Houses::full, y -> y.house(0), 6);
        for (int what = 0; what <= 6; what++) {
            edge.is("2 count(" + what + ") as at first", x.count(what), 0);
        }
        edge.is("2 nothing passed", x.acts(0), 0);
        edge.is("2 nothing in force", x.acts(1), 0);
        edge.is("2 deputy 0 is gone", x.of(0, 0), -2);
        edge.is("2 none may be undone", x.undo(), -3);
        edge.is("2 all laws are free", x.most(), 255);
        for (int i = 0; i < 6; i++) {
            edge.is("2 deputy " + i + " comes anew", x.deputy(0, 0, 0, 0), i);
            edge.is("2 he is not bought", x.of(i, 5), 0);
            edge.is("2 he is not locked", x.of(i, 6), 0);
        }
        for (int i = 1; i <= 6; i++) {
            edge.is("2 note " + i + " comes anew", x.note(0, 1, 1, 0), i);
        }
        edge.is("2 somebody may be locked", x.lock(1), 1);
        edge.is("2 the one who was bought may be", x.buy(5), 0);
        edge.is("2 all may be moved", x.moves(255), 0);
    }

    private static void promise2WhatStays() {
        VetoHouse x = Houses.full();
        x.from(0);
        long first = x.digest();
        x.from(1);
        long second = x.digest();
        x.status(9);
        x.undo();
        x.buy(9);
        int refused = Due.refused(x);
        x.house(7);
        edge.is("2 the text's bytes stay", x.count(7), 150);
        edge.is("2 the fraction stays above", x.part(0), 729);
        edge.is("2 the fraction stays below", x.part(1), 1000);
        edge.is("2 status stays", Due.refused(x), refused);
        edge.is("2 image 0 stays", x.from(0), 1);
        edge.is("2 image 0 is as it was", x.digest(), first);
        edge.is("2 image 1 stays", x.from(1), 1);
        edge.is("2 image 1 is as it was", x.digest(), second);
        edge.is("2 the text stays", x.read(), 5);
    }

    private static void promise3KindsLawsPrices() {
        int[][] told = {{0, 0, 0, 0}, {5, 255, 255, 40}, {5, 0, 0, 0}, {0, 255, 0, 0}, {0, 0, 255, 0}, {0, 0, 0, 40},
            {0, 1, 0, 1}, {0, 0, 128, 39}};
        for (int[] t : told) {
            VetoHouse x = edge.does("3 a deputy", Houses::fresh, y -> y.deputy(t[0], t[1], t[2], t[3]), 0);
            for (int what = 0; what < 4; what++) {
                edge.is("3 of(0, " + what + ")", x.of(0, what), t[what]);
            }
        }
        int[][] wrong = {{-1, 0, 0, 0}, {6, 0, 0, 0}, {0, -1, 0, 0}, {0, 256, 0, 0}, {0, 0, -1, 0}, {0, 0, 256, 0},
            {0, 0, 0, -1}, {0, 0, 0, 41}, {LEAST, 0, 0, 0}, {0, LEAST, 0, 0}, {0, 0, LEAST, 0}, {0, 0, 0, LEAST},
            {GREATEST, 0, 0, 0}, {0, GREATEST, 0, 0}, {0, 0, GREATEST, 0}, {0, 0, 0, GREATEST}};
        for (int[] w : wrong) {
            edge.bad("3 the first deputy, wrong", Houses::fresh, x -> x.deputy(w[0], w[1], w[2], w[3]));
            edge.bad("3 the last deputy, wrong", () -> Houses.plain(5), x -> x.deputy(w[0], w[1], w[2], w[3]));
            edge.bad("3 a 7th deputy, wrong: BAD goes ahead of FULL", Houses::full,
                x -> x.deputy(w[0], w[1], w[2], w[3]));
        }
    }

    private static void promise3SixAtMost() {
        for (int many = 0; many < 6; many++) {
            int n = many;
            VetoHouse x = edge.does("3 deputy " + n, () -> Houses.plain(n), y -> y.deputy(1, 2, 3, 4), n);
            edge.is("3 how many then", x.count(0), n + 1);
        }
        edge.full("3 a 7th", () -> Houses.plain(6), x -> x.deputy(0, 0, 0, 0));
        edge.full("3 a 7th, all greatest", () -> Houses.plain(6), x -> x.deputy(5, 255, 255, 40));
        edge.full("3 a 7th in a full house", Houses::full, x -> x.deputy(0, 0, 0, 0));
        VetoHouse x = Houses.full();
        x.deputy(0, 0, 0, 0);
        x.house(0);
        edge.is("3 one behind a house", x.deputy(0, 0, 0, 0), 0);
    }

    private static void promise3ALawInBoth() {
        VetoHouse x = edge.does("3 all laws in both", Houses::fresh, y -> y.deputy(0, 255, 255, 0), 0);
        edge.is("3 loved", x.of(0, 1), 255);
        edge.is("3 hated", x.of(0, 2), 255);
        edge.is("3 it gives joy both ways", x.joy(0, 1), -1);
    }

    private static void promise3NeitherBoughtNorLocked() {
        VetoHouse x = edge.does("3 in a sitting", Houses::ordinary, y -> y.deputy(0, 0, 0, 7), 3);
        edge.is("3 not bought", x.of(3, 5), 0);
        edge.is("3 not locked", x.of(3, 6), 0);
        edge.is("3 one who is bought stays so", x.of(1, 5), 1);
        edge.is("3 one who is locked stays so", x.of(2, 6), 1);
        edge.is("3 what is passed stays", x.acts(0), 64);
        edge.is("3 what is in force stays", x.acts(1), 32);
        edge.is("3 spent stays", x.count(4), 10);
        edge.is("3 notes stay", x.count(5), 1);
        edge.is("3 the day stays", x.count(1), 4);
    }

    private static void promise3NothingToUndoBehindIt() {
        edge.is("3 ahead of it", Houses.ordinary().count(6), 5);
        VetoHouse x = edge.does("3 a deputy", Houses::ordinary, y -> y.deputy(0, 0, 0, 7), 3);
        edge.is("3 none may be undone", x.count(6), 0);
        edge.is("3 undo", x.undo(), -3);
        VetoHouse refused = Houses.ordinary();
        refused.deputy(0, 0, 0, 41);
        edge.is("3 behind a refused one they may be", refused.count(6), 5);
        VetoHouse full = Houses.full();
        full.deputy(0, 0, 0, 0);
        edge.is("3 behind one too many they may be", full.count(6), 8);
        edge.is("3 and are", full.undo(), 4);
    }

    private static void promise4Bytes() {
        for (int c = 0; c <= 127; c++) {
            int b = c;
            VetoHouse x = edge.does("4 type(" + b + ")", Houses::fresh, y -> y.type(b), 1);
            edge.is("4 its fault: blank is none", x.read(), b == 32 ? -11 : -10);
        }
        for (int wrong : new int[] {-1, 128, 256 + 'h', -256 + 'h', LEAST, GREATEST}) {
            edge.bad("4 type(" + wrong + ")", Houses::fresh, x -> x.type(wrong));
            edge.bad("4 type(" + wrong + ") behind 8 bytes", Houses::ordinary, x -> x.type(wrong));
            edge.bad("4 type(" + wrong + ") at 150: BAD goes ahead of FULL", Houses::full, x -> x.type(wrong));
        }
    }

    private static void promise4FullAt150() {
        VetoHouse x = Houses.fresh();
        for (int i = 1; i <= 150; i++) {
            edge.is("4 byte " + i, x.type(Houses.LONGEST.charAt(i - 1)), i);
        }
        edge.is("4 all of them are there", x.count(7), 150);
        edge.is("4 all of them are read", x.read(), 5);
        edge.full("4 a 151st", Houses::full, y -> y.type(' '));
        edge.full("4 a 151st, the least", Houses::full, y -> y.type(0));
        edge.full("4 a 151st, the greatest", Houses::full, y -> y.type(127));
        VetoHouse full = Houses.full();
        full.type('a');
        full.type('b');
        edge.is("4 counted each time", full.status(2), 2);
        edge.is("4 150 stay", full.count(7), 150);
        full.clear();
        edge.is("4 behind a clearing", full.type('a'), 1);
    }

    private static void promise5Clear() {
        edge.tells("5 an empty one", Houses::fresh, x -> x.clear(), 0);
        edge.tells("5 an empty one of a crowded house", Houses::crowded, x -> x.clear(), 0);
        edge.is("5 of one", edge.does("5 one byte", () -> Houses.type(Houses.fresh(), "a"), x -> x.clear(), 1).count(7),
            0);
        edge.is("5 of 149", edge.does("5 149 bytes", () -> Houses.type(Houses.fresh(), Houses.LONGEST.substring(1)),
            x -> x.clear(), 149).count(7), 0);
        VetoHouse x = edge.does("5 150 bytes", Houses::full, y -> y.clear(), 150);
        edge.is("5 none are left", x.count(7), 0);
        edge.is("5 again", x.clear(), 0);
        edge.is("5 it is an empty text", x.read(), -10);
        edge.is("5 deputies stay", x.count(0), 6);
        edge.is("5 notes stay", x.count(5), 6);
        edge.is("5 what may be undone stays", x.count(6), 8);
        edge.is("5 passed stays", x.acts(0), 16);
        edge.is("5 in force stays", x.acts(1), 96);
        edge.is("5 the fraction stays", x.part(0), 729);
        for (int i = 1; i <= 150; i++) {
            edge.is("5 byte " + i + " anew", x.type(' '), i);
        }
        edge.is("5 old bytes are gone", x.read(), -160);
    }
}
