import java.math.BigInteger;
import java.util.function.Supplier;
import java.util.function.ToLongFunction;

/** Promises 30 to 35 at their boundaries: part, image, from, status, count, digest. */
public final class ThereEdgeTest {
    private static final int LEAST = Integer.MIN_VALUE;
    private static final int GREATEST = Integer.MAX_VALUE;
    private static final Edge edge = new Edge("ThereEdgeTest");

    public static void main(String[] args) {
        promise30Part();
        promise31Images();
        promise31ImagesOfTheLeastAndTheMost();
        promise32Images();
        promise32WhatIsKept();
        promise32AllThatMayBeUndone();
        promise32Notes();
        promise32WhatIsNotKept();
        promise33Status();
        promise33EachReason();
        promise33WhatIsNotCounted();
        promise34Whats();
        promise34TheLeastAndTheMost();
        promise35Digest();
        edge.finish();
    }

    private static Supplier<VetoHouse> and(Supplier<VetoHouse> house, ToLongFunction<VetoHouse> call) {
        return Houses.behind(house, call);
    }

    private static void promise30Part() {
        edge.tells("30 above at first", Houses::fresh, x -> x.part(0), 0);
        edge.tells("30 below at first", Houses::fresh, x -> x.part(1), 1);
        edge.tells("30 above", Houses::full, x -> x.part(0), 729);
        edge.tells("30 below", Houses::full, x -> x.part(1), 1000);
        edge.tells("30 behind a refused one", and(Houses::full, x -> x.away(128, 11)), x -> x.part(0), 729);
        edge.tells("30 behind another", and(Houses::full, x -> x.away(0, 0)), x -> x.part(1), 1);
        edge.tells("30 behind a house", and(Houses::full, x -> x.house(0)), x -> x.part(1), 1000);
        edge.tells("30 behind a text", and(Houses::full, x -> x.read()), x -> x.part(1), 1000);
        edge.tells("30 behind an image", and(Houses::full, x -> x.from(0)), x -> x.part(1), 1000);
        for (int wrong : new int[] {-1, 2, LEAST, GREATEST}) {
            edge.bad("30 part(" + wrong + ")", Houses::full, x -> x.part(wrong));
            edge.bad("30 part(" + wrong + ") of a new one", Houses::fresh, x -> x.part(wrong));
        }
    }

    private static void promise31Images() {
        for (int image = 0; image < 2; image++) {
            int i = image;
            VetoHouse x = edge.does("31 image(" + i + ")", Houses::ordinary, y -> y.image(i), 1);
            long digest = x.digest();
            x.end();
            x.from(i);
            edge.is("31 what it keeps", x.digest(), digest);
        }
        for (int wrong : new int[] {-1, 2, LEAST, GREATEST}) {
            edge.bad("31 image(" + wrong + ")", Houses::full, x -> x.image(wrong));
            edge.bad("31 image(" + wrong + ") of a new one", Houses::fresh, x -> x.image(wrong));
        }
        VetoHouse apart = edge.does("31 image(1) alone", Houses::fresh, y -> y.image(1), 1);
        edge.is("31 image 0 is not kept by it", apart.from(0), -3);
        VetoHouse again = Houses.full();
        again.image(0);
        again.house(50);
        again.image(0);
        again.house(60);
        again.from(0);
        edge.is("31 kept anew", again.count(1), 50);
        again.from(1);
        edge.is("31 the other one stays", again.count(1), 4);
        edge.is("31 it is no thing to undo", and(Houses::ordinary, y -> y.image(1)).get().count(6), 5);
    }

    private static void promise31ImagesOfTheLeastAndTheMost() {
        VetoHouse none = edge.does("31 a new object's", Houses::fresh, y -> y.image(0), 1);
        long first = none.digest();
        for (int i = 0; i < 6; i++) {
            none.deputy(i, 255, 255, 40);
            none.note(i, 1, 1, 1);
        }
        none.moves(1);
        none.end();
        edge.is("31 from it", none.from(0), 1);
        edge.is("31 nothing is left", none.digest(), first);
        edge.is("31 the first deputy comes", none.deputy(0, 0, 0, 0), 0);
        edge.is("31 not bought", none.of(0, 5), 0);
        edge.is("31 the first note comes", none.note(0, 0, 0, 0), 1);
        VetoHouse full = edge.does("31 a full one's", Houses::crowded, y -> y.image(0), 1);
        long all = full.digest();
        full.house(0);
        full.deputy(0, 0, 0, 0);
        full.note(0, 1, 1, 1);
        full.end();
        edge.is("31 from it", full.from(0), 1);
        edge.is("31 all is there", full.digest(), all);
        edge.is("31 a 7th deputy does not come", full.deputy(0, 0, 0, 0), -4);
        edge.is("31 nor a 7th note", full.note(0, 0, 0, 0), -4);
        edge.is("31 eight may be undone", full.count(6), 8);
        for (int i = 0; i < 8; i++) {
            full.undo();
        }
        edge.is("31 and are", full.acts(0), 64);
        edge.is("31 and no more", full.undo(), -3);
    }

    private static void promise32Images() {
        edge.no("32 none was kept, 0", Houses::fresh, x -> x.from(0));
        edge.no("32 none was kept, 1", Houses::fresh, x -> x.from(1));
        edge.no("32 none was kept, 1, 0 was", Houses::ordinary, x -> x.from(1));
        edge.no("32 none was kept by a refused one", and(Houses::fresh, x -> x.image(2)), x -> x.from(0));
        for (int wrong : new int[] {-1, 2, LEAST, GREATEST}) {
            edge.bad("32 from(" + wrong + ")", Houses::full, x -> x.from(wrong));
            edge.bad("32 from(" + wrong + ") of a new one: BAD goes ahead of NO", Houses::fresh, x -> x.from(wrong));
        }
        edge.is("32 image 0 of a full one", edge.does("32 from(0)", Houses::full, x -> x.from(0), 1).count(1), 2);
        edge.is("32 image 1 of a full one", edge.does("32 from(1)", Houses::full, x -> x.from(1), 1).count(1), 4);
    }

    private static void promise32WhatIsKept() {
        VetoHouse x = edge.does("32 from(0)", Houses::full, y -> y.from(0), 1);
        int[] want = {6, 2, 1, 0, 0, 0, 2, 150};
        for (int what = 0; what < 8; what++) {
            edge.is("32 image 0: count(" + what + ")", x.count(what), want[what]);
        }
        for (int i = 0; i < 6; i++) {
            edge.is("32 image 0: not bought", x.of(i, 5), 0);
            edge.is("32 image 0: not locked", x.of(i, 6), 0);
        }
        edge.is("32 what may be undone", x.undo(), 1);
        edge.is("32 what may be undone", x.undo(), 1);
        edge.is("32 no more", x.undo(), -3);
        x.end();
        x.forget();
        edge.is("32 again", x.from(0), 1);
        edge.is("32 the image is as it was", x.count(6), 2);
        x.from(1);
        edge.is("32 image 1: spent", x.count(4), 70);
        edge.is("32 image 1: bought", x.of(5, 5), 1);
        edge.is("32 image 1: not bought", x.of(0, 5), 0);
        edge.is("32 image 1: not locked", x.of(1, 6), 0);
        edge.is("32 image 1: seven may be undone", x.count(6), 7);
        x.image(0);
        x.house(0);
        x.from(0);
        edge.is("32 an image of an image", x.count(4), 70);
    }

    /** Eight of each image, each unlike the others, and other ones done in between. */
    private static void promise32AllThatMayBeUndone() {
        VetoHouse x = new VetoHouse();
        long[][] ahead = new long[2][];
        for (int image = 0; image < 2; image++) {
            x.house(10 + 30 * image);
            x.deputy(0, 0, 0, 3);
            x.deputy(0, 0, 0, 5);
            ahead[image] = eightThings(x, image);
            x.image(image);
        }
        for (int times = 0; times < 2; times++) {
            for (int image = 0; image < 2; image++) {
                edge.is("32 from(" + image + ")", x.from(image), 1);
                edge.is("32 eight may be undone", x.count(6), 8);
                for (int i = 7; i >= 0; i--) {
                    edge.is("32 undo of image " + image, x.undo(), ahead[image][2 * i]);
                    edge.is("32 as ahead of thing " + i + " of image " + image, seen(x), ahead[image][2 * i + 1]);
                }
                edge.is("32 no more", x.undo(), -3);
            }
        }
    }

    /** Does them; the day and what is seen ahead of each. */
    private static long[] eightThings(VetoHouse x, int turn) {
        long[] ahead = new long[16];
        for (int i = 0; i < 8; i++) {
            ahead[2 * i] = x.count(1);
            ahead[2 * i + 1] = seen(x);
            switch ((i + 2 * turn) % 4) {
                case 0 -> x.moves(1 << i);
                case 1 -> x.buy((i / 4 + turn) % 2);
                case 2 -> x.lock((i / 4 + turn) % 2);
                default -> x.end();
            }
        }
        return ahead;
    }

    /** All that undo gives back, in one number. */
    private static long seen(VetoHouse x) {
        long h = 0;
        for (int what : new int[] {0, 1}) {
            h = 1000 * h + x.acts(what);
            h = 10 * h + x.of(what, 5);
            h = 10 * h + x.of(what, 6);
        }
        return 1000 * (1000 * h + x.count(1)) + x.count(4);
    }

    /** Each field of each note, which are otherwise behind it. */
    private static void promise32Notes() {
        VetoHouse x = Houses.crowded();
        x.image(0);
        long kept = x.digest();
        x.forget();
        for (int i = 0; i < 6; i++) {
            x.note(5 - i, 20 + i, 90 - i, 1 - i % 2);
        }
        long others = x.digest();
        x.image(1);
        x.from(0);
        edge.is("32 the notes of image 0", x.digest(), kept);
        x.from(1);
        edge.is("32 the notes of image 1", x.digest(), others);
    }

    private static void promise32WhatIsNotKept() {
        VetoHouse x = Houses.crowded();
        x.away(128, 0);
        x.type('a');
        x.image(0);
        x.type('b');
        x.away(0, 0);
        x.buy(9);
        x.buy(0);
        x.deputy(0, 0, 0, 0);
        edge.is("32 from(0)", x.from(0), 1);
        edge.is("32 the text is as it is", x.count(7), 2);
        edge.is("32 the fraction is as it is", x.part(0), 1);
        edge.is("32 status is as it is", Due.refused(x), 10101);
        x.clear();
        x.from(0);
        edge.is("32 an empty text stays empty", x.count(7), 0);
    }

    private static void promise33Status() {
        for (int wrong : new int[] {-1, 3, LEAST, GREATEST}) {
            edge.refused("33 status(" + wrong + ")", Houses::full, x -> x.status(wrong), -1, 0);
            edge.refused("33 status(" + wrong + ") of a new one", Houses::fresh, x -> x.status(wrong), -1, 0);
        }
        VetoHouse x = Houses.fresh();
        for (int i = 1; i <= 100; i++) {
            x.status(3);
            edge.is("33 BAD " + i + " times", x.status(0), i);
        }
        edge.is("33 NO", x.status(1), 0);
        edge.is("33 FULL", x.status(2), 0);
    }

    private static void promise33EachReason() {
        VetoHouse x = Houses.crowded();
        for (int i = 0; i < 8; i++) {
            x.undo();
        }
        for (int i = 1; i <= 5; i++) {
            x.undo();
            edge.is("33 NO " + i + " times", Due.refused(x), 100 * i);
        }
        for (int i = 1; i <= 5; i++) {
            x.deputy(0, 0, 0, 0);
            edge.is("33 FULL " + i + " times", Due.refused(x), 500 + i);
        }
        x.joy(6, 0);
        edge.is("33 -1000 counts as BAD", Due.refused(x), 10505);
        x.house(0);
        x.clear();
        x.forget();
        edge.is("33 a house leaves them", Due.refused(x), 10505);
        x.from(0);
        edge.is("33 an image leaves them", Due.refused(x), 10505);
    }

    private static void promise33WhatIsNotCounted() {
        VetoHouse x = Houses.fresh();
        edge.is("33 a fault", x.read(), -10);
        edge.is("33 NONE of gone", x.gone(0), -1);
        x.deputy(1, 0, 255, 0);
        edge.is("33 NONE of tied", x.tied(3), -1);
        x.note(0, 0, 0, 1);
        edge.is("33 NONE of tryNext", x.tryNext(0), -1);
        edge.is("33 joy as BAD has it", Houses.one(1, 2, 2, 5, 0).joy(0, 7), -2);
        edge.is("33 what is stopped", x.moves(1), 1);
        edge.is("33 none of these is refused", Due.refused(x), 0);
    }

    private static void promise34Whats() {
        int[] ordinary = {3, 4, 1, 1, 10, 1, 5, 8};
        int[] full = {6, 4, 2, 1, 110, 6, 8, 150};
        for (int what = 0; what < 8; what++) {
            int w = what;
            edge.tells("34 count(" + w + ") of an ordinary one", Houses::ordinary, x -> x.count(w), ordinary[w]);
            edge.tells("34 count(" + w + ") of a full one", Houses::full, x -> x.count(w), full[w]);
        }
        for (int wrong : new int[] {-1, 8, LEAST, GREATEST}) {
            edge.bad("34 count(" + wrong + ")", Houses::full, x -> x.count(wrong));
            edge.bad("34 count(" + wrong + ") of a new one", Houses::fresh, x -> x.count(wrong));
        }
    }

    private static void promise34TheLeastAndTheMost() {
        for (int what = 0; what < 8; what++) {
            int w = what;
            edge.tells("34 count(" + w + ") of a new one", Houses::fresh, x -> x.count(w), 0);
        }
        edge.tells("34 day 99", and(Houses::fresh, x -> x.house(99)), x -> x.count(1), 99);
        edge.tells("34 day 100", and(and(Houses::fresh, x -> x.house(99)), x -> x.end()), x -> x.count(1), 100);
        Supplier<VetoHouse> passed = and(Houses::fresh, x -> x.moves(255));
        edge.tells("34 all are passed", passed, x -> x.count(3), 8);
        edge.tells("34 none are in force", passed, x -> x.count(2), 0);
        edge.tells("34 all are in force", and(passed, x -> x.end()), x -> x.count(2), 8);
        edge.tells("34 none are passed", and(passed, x -> x.end()), x -> x.count(3), 0);
        VetoHouse dear = Houses.fresh();
        for (int i = 0; i < 6; i++) {
            dear.deputy(5, 0, 0, 40);
        }
        for (int i = 0; i < 6; i++) {
            dear.buy(i);
        }
        edge.is("34 the most of a sitting is spent", dear.count(4), 480);
        dear.end();
        dear.buy(0);
        edge.is("34 more in the next one", dear.count(4), 560);
    }

    /** By numbers without an end, of which the last 64 bits are taken at last. */
    private static long fold(long... values) {
        BigInteger h = BigInteger.valueOf(1187);
        for (long v : values) {
            h = h.multiply(BigInteger.valueOf(31)).add(BigInteger.valueOf(v));
        }
        return h.longValue();
    }

    private static void promise35Digest() {
        edge.tells("35 a new object", Houses::fresh, x -> x.digest(), -5828223402178566108L);
        edge.tells("35 a new object", Houses::fresh, x -> x.digest(), fold(0, 0, 0, 0, 0, 0, 0, 0, 0, 0, 0, 1));
        edge.tells("35 an ordinary one", Houses::ordinary, x -> x.digest(), fold(3, 4, 1, 1, 10, 1, 5, 8, 64, 32,
            0, 7, 8, 9, 0, 0, 1, 0, 16, 10, 1, 0, 3, 1, 2, 11, 0, 1, 0, 8, 4, 1, 1, 2));
        edge.tells("35 a full one", Houses::full, x -> x.digest(), fold(6, 4, 2, 1, 110, 6, 8, 150, 16, 96,
            0, 1, 128, 40, 1, 0, 1, 2, 128, 39, 0, 1, 2, 4, 128, 38, 0, 0, 3, 8, 128, 37, 0, 0, 4, 16, 128, 36, 0, 0,
            5, 32, 128, 35, 1, 0, 0, 128, 0, 0, 1, 129, 10, 1, 2, 130, 20, 0, 3, 131, 30, 1, 4, 132, 40, 0,
            5, 133, 50, 1, 729, 1000));
        edge.tells("35 no deputies, some text", () -> Houses.type(Houses.fresh(), "abc"), x -> x.digest(),
            fold(0, 0, 0, 0, 0, 0, 0, 3, 0, 0, 0, 1));
        long first = Houses.full().digest();
        edge.tells("35 what the text is does not count, its length does", () -> {
            VetoHouse x = Houses.crowded();
            return Houses.type(x, " ".repeat(150));
        }, x -> x.digest(), first);
        edge.tells("35 what was refused does not count", and(Houses::full, x -> x.house(100)), x -> x.digest(), first);
        edge.tells("35 images do not count", and(Houses::full, x -> x.image(0)), x -> x.digest(), first);
    }
}
