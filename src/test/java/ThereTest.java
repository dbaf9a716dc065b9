/** Promises 30 to 35: part, image, from, status, count, digest. */
public final class ThereTest {
    private static final Due due = new Due("ThereTest");

    public static void main(String[] args) {
        promise30Part();
        promise31Image();
        promise32From();
        promise33Status();
        promise34Count();
        promise35Digest();
        due.finish();
    }

    private static void promise30Part() {
        VetoHouse x = new VetoHouse();
        due.is("30 above at first", x.part(0), 0);
        due.is("30 below at first", x.part(1), 1);
        x.deputy(0, 0, 1, 0);
        x.away(1, 4);
        due.is("30 above", x.part(0), 2);
        due.is("30 below", x.part(1), 5);
        x.house(3);
        due.is("30 a house leaves it", x.part(1), 5);
        due.is("30 below", x.part(-1), -2);
        due.is("30 beyond", x.part(2), -2);
        due.is("30 status", Due.refused(x), 20000);
    }

    private static void promise31Image() {
        VetoHouse x = new VetoHouse();
        due.is("31 below", x.image(-1), -2);
        due.is("31 beyond", x.image(2), -2);
        due.is("31 nothing is kept by these", x.from(0), -3);
        x.house(5);
        due.is("31 the first", x.image(0), 1);
        x.house(6);
        due.is("31 the second", x.image(1), 1);
        x.house(7);
        x.from(0);
        due.is("31 the first is day 5", x.count(1), 5);
        x.from(1);
        due.is("31 the second is day 6", x.count(1), 6);
        due.is("31 the first anew", x.image(0), 1);
        x.house(8);
        x.from(0);
        due.is("31 the first is day 6 now", x.count(1), 6);
        due.is("31 status", Due.refused(x), 20100);
    }

    private static void promise32From() {
        VetoHouse x = new VetoHouse();
        due.is("32 none was kept", x.from(0), -3);
        due.is("32 below", x.from(-1), -2);
        due.is("32 beyond", x.from(2), -2);
        x.house(3);
        x.deputy(2, 1, 4, 6);
        x.deputy(3, 2, 8, 7);
        x.note(1, 9, 8, 1);
        x.note(0, 7, 6, 0);
        x.moves(16);
        x.end();
        x.moves(32);
        x.buy(1);
        x.lock(0);
        x.type('h');
        x.away(4, 4);
        long kept = x.digest();
        x.image(0);
        x.end();
        x.deputy(0, 0, 0, 0);
        x.forget();
        x.note(2, 1, 1, 0);
        x.note(2, 1, 1, 1);
        x.type('i');
        x.clear();
        x.type('j');
        due.is("32 it goes on", x.from(0), 1);
        due.is("32 as it was", x.digest(), kept);
        due.is("32 what may be undone, too", x.undo(), 4);
        due.is("32 the lock", x.of(0, 6), 0);
        for (int i = 0; i < 4; i++) {
            x.undo();
        }
        due.is("32 all of it", x.count(1), 3);
        due.is("32 as ahead of all", x.acts(0), 0);
        due.is("32 and no more", x.undo(), -3);
        due.is("32 once more", x.from(0), 1);
        due.is("32 an image stays", x.digest(), kept);
        x.end();
        x.away(8, 7);
        x.type('k');
        x.from(0);
        due.is("32 the text is not kept", x.count(7), 2);
        due.is("32 the fraction is not kept", x.part(0), 7);
        due.is("32 status is not kept", Due.refused(x), 20200);
        due.is("32 the other was not kept", x.from(1), -3);
    }

    private static void promise33Status() {
        VetoHouse x = new VetoHouse();
        due.is("33 none at first", Due.refused(x), 0);
        due.is("33 below", x.status(-1), -1);
        due.is("33 beyond", x.status(3), -1);
        due.is("33 count as BAD", x.status(0), 2);
        x.joy(0, 0);
        due.is("33 -1000, too", x.status(0), 3);
        x.undo();
        x.from(0);
        due.is("33 NO", x.status(1), 2);
        for (int i = 0; i < 8; i++) {
            x.deputy(0, 0, 0, 0);
        }
        due.is("33 FULL", x.status(2), 2);
        x.read();
        x.tied(3);
        x.house(0);
        x.gone(0);
        x.image(0);
        x.from(0);
        due.is("33 a fault and NONE are none", Due.refused(x), 30202);
    }

    private static void promise34Count() {
        VetoHouse x = new VetoHouse();
        x.house(20);
        x.deputy(0, 0, 0, 9);
        x.deputy(5, 0, 0, 9);
        x.deputy(0, 0, 0, 9);
        x.end();
        x.moves(1);
        x.end();
        x.moves(2 | 4 | 8);
        x.end();
        x.moves(16 | 128);
        x.buy(1);
        x.buy(0);
        x.note(0, 1, 1, 1);
        x.note(0, 1, 1, 1);
        x.type(' ');
        int[] want = {3, 23, 4, 2, 27, 2, 8, 1};
        for (int what = 0; what < 8; what++) {
            due.is("34 count(" + what + ")", x.count(what), want[what]);
        }
        due.is("34 below", x.count(-1), -2);
        due.is("34 beyond", x.count(8), -2);
        due.is("34 status", Due.refused(x), 20000);
    }

    private static void promise35Digest() {
        VetoHouse x = new VetoHouse();
        due.is("35 at first", x.digest(), fold(0, 0, 0, 0, 0, 0, 0, 0, 0, 0, 0, 1));
        x.house(10);
        x.deputy(2, 1, 4, 6);
        x.deputy(3, 2, 8, 7);
        x.end();
        x.moves(64);
        x.end();
        x.moves(32);
        x.buy(1);
        x.lock(0);
        x.note(1, 9, 8, 1);
        x.note(0, 7, 99, 0);
        x.type(7);
        x.end();
        x.undo();
        x.house(-1);
        due.is("35 of all", x.digest(), fold(2, 12, 1, 1, 4, 2, 6, 1, 32, 64,
            2, 1, 4, 6, 0, 1, 3, 2, 8, 7, 1, 0, 1, 9, 8, 1, 0, 7, 99, 0, 0, 1));
        x.end();
        x.away(4, 3);
        due.is("35 with a fraction", x.digest(), fold(2, 13, 2, 0, 4, 2, 7, 1, 0, 96,
            2, 1, 4, 6, 0, 0, 3, 2, 8, 7, 0, 0, 1, 9, 8, 1, 0, 7, 99, 0, 3, 10));
        x.end();
        x.away(12, 4);
        due.is("35 with another", x.digest(), fold(2, 14, 2, 0, 4, 2, 8, 1, 0, 96,
            2, 1, 4, 6, 0, 0, 3, 2, 8, 7, 0, 0, 1, 9, 8, 1, 0, 7, 99, 0, 4, 25));
    }

    private static long fold(long... values) {
        long h = 1187;
        for (long v : values) {
            h = 31 * h + v;
        }
        return h;
    }
}
