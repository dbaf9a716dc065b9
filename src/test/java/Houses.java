import java.util.function.Supplier;
import java.util.function.ToLongFunction;

/** Houses to look at boundaries in; each call makes one anew, well below 512 calls. */
final class Houses {
    /** 150 bytes, the most that a TEXT has: a house of day 9 with one deputy, law 1 in force. */
    static final String LONGEST = longest();

    private Houses() {
    }

    private static String longest() {
        StringBuilder text = new StringBuilder("house 9;deputy 5 40;love 0 7;hate 0 0;law ");
        while (text.length() < 149) {
            text.append(text.length() % 2 == 0 ? ' ' : '1');
        }
        return text.append(';').toString();
    }

    static VetoHouse fresh() {
        return new VetoHouse();
    }

    /** Three deputies, nothing of it at a boundary; image 0 is kept, image 1 is not. */
    static VetoHouse ordinary() {
        VetoHouse x = new VetoHouse();
        x.house(3);
        x.deputy(0, 7, 8, 9);
        x.deputy(1, 0, 16, 10);
        x.deputy(3, 1, 2, 11);
        x.moves(32);
        x.end();
        x.image(0);
        x.moves(64);
        x.buy(1);
        x.lock(2);
        x.note(0, 8, 4, 1);
        x.away(8, 5);
        type(x, "house 7;");
        return x;
    }

    /** One deputy of each kind, six notes, eight to undo, both images; no text. Day 4, 96 in force, 16 passed. */
    static VetoHouse crowded() {
        VetoHouse x = new VetoHouse();
        x.house(1);
        for (int kind = 0; kind < 6; kind++) {
            x.deputy(kind, 1 << kind, 128, 40 - kind);
        }
        x.moves(64);
        x.end();
        x.image(0);
        x.moves(32);
        x.end();
        x.end();
        x.moves(16);
        x.buy(5);
        x.image(1);
        x.buy(0);
        x.lock(1);
        for (int i = 0; i < 6; i++) {
            x.note(i, 128 + i, 10 * i, i % 2);
        }
        x.away(128, 9);
        return x;
    }

    /** As crowded, and a text of 150 bytes. */
    static VetoHouse full() {
        return type(crowded(), LONGEST);
    }

    /** So many plain deputies, who love and hate nothing, on day 1. */
    static VetoHouse plain(int deputies) {
        VetoHouse x = new VetoHouse();
        x.house(1);
        for (int i = 0; i < deputies; i++) {
            x.deputy(0, 0, 0, 0);
        }
        return x;
    }

    /** One deputy on a day (99 at most). */
    static VetoHouse one(int day, int kind, int love, int hate, int price) {
        VetoHouse x = new VetoHouse();
        x.house(day);
        x.deputy(kind, love, hate, price);
        return x;
    }

    /** A house and a call made on it. */
    static Supplier<VetoHouse> behind(Supplier<VetoHouse> house, ToLongFunction<VetoHouse> call) {
        return () -> {
            VetoHouse x = house.get();
            call.applyAsLong(x);
            return x;
        };
    }

    static VetoHouse type(VetoHouse x, String text) {
        for (int i = 0; i < text.length(); i++) {
            x.type(text.charAt(i));
        }
        return x;
    }
}
