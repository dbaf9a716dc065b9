/** Promises 15 to 22: stops, most, money, tied, alone, league, courts, gone. */
public final class PassTest {
    private static final int NONE = -1;
    private static final Due due = new Due("PassTest");

    public static void main(String[] args) {
        promise15StopsByKind();
        promise15Stops();
        promise16Most();
        promise17Money();
        promise18Tied();
        promise19Alone();
        promise20League();
        promise21Courts();
        promise22Gone();
        nothingIsChanged();
        due.finish();
    }

    /** Each kind loves laws 0, 1, 2, hates 6, 7. */
    private static VetoHouse kinds(int day) {
        VetoHouse x = new VetoHouse();
        x.house(day);
        for (int kind = 0; kind < 6; kind++) {
            x.deputy(kind, 7, 192, 10);
        }
        return x;
    }

    private static void promise15StopsByKind() {
        // By bits: 1 plain, 2 proud, 4 timid, 8 poor, 16 late, 32 kept.
        int oneHated = 64;
        int evened = 64 | 128 | 7;
        int lessByOne = 64 | 1;
        int moreByOne = 64 | 3;
        int neither = 8;
        int loved = 7;
        stopsOn(2, oneHated, 63);
        stopsOn(3, oneHated, 47);
        stopsOn(5, oneHated, 47);
        stopsOn(10, oneHated, 63);
        stopsOn(2, evened, 34);
        stopsOn(2, lessByOne, 43);
        stopsOn(3, lessByOne, 43);
        stopsOn(2, moreByOne, 34);
        stopsOn(2, neither, 0);
        stopsOn(0, neither, 32);
        stopsOn(5, neither, 32);
        stopsOn(99, neither, 0);
        stopsOn(95, loved, 32);
        stopsOn(96, loved, 0);
        stopsOn(0, 0, 0);
        stopsOn(2, 192, 63);
        stopsOn(1, 192, 47);
    }

    private static void stopsOn(int day, int bundle, int want) {
        due.is("15 on day " + day + " stops(" + bundle + ")", kinds(day).stops(bundle), want);
    }

    private static void promise15Stops() {
        VetoHouse x = kinds(0);
        x.buy(1);
        x.lock(5);
        due.is("15 but for bought and locked", x.stops(192), 29);
        due.is("15 below", x.stops(-1), -2);
        due.is("15 beyond", x.stops(256), -2);
        due.is("15 status", Due.refused(x), 20000);
        x = new VetoHouse();
        x.deputy(0, 0, 1, 0);
        x.buy(0);
        x.moves(1);
        x.end();
        due.is("15 a law in force, too", x.stops(1), 1);
    }

    private static void promise16Most() {
        VetoHouse x = new VetoHouse();
        due.is("16 all", x.most(), 255);
        // Two loved laws go for one hated one: 0, 1 loved, 2 .. 7 hated.
        x.deputy(0, 3, 252, 0);
        due.is("16 two loved, the least hated", x.most(), 7);
        x.deputy(1, 0, 2, 0);
        due.is("16 law 1 alone is stopped, too", x.most(), 1);
        x.buy(1);
        due.is("16 not by one who is bought", x.most(), 7);
        x.moves(1);
        due.is("16 of free laws", x.most(), 2);
        x.end();
        due.is("16 in force, not free", x.most(), 0);
        x = new VetoHouse();
        x.deputy(5, 255, 0, 40);
        due.is("16 nothing, too", x.most(), 0);
        x.end();
        due.is("16 on another day", x.most(), 255);
    }

    private static void promise17Money() {
        VetoHouse x = new VetoHouse();
        x.house(1);
        x.deputy(1, 0, 15, 10);
        x.deputy(3, 0, 16 | 32, 9);
        x.deputy(5, 0, 64, 4);
        money(x, 0, 128, 0, 0);
        money(x, 4, 128, 0, 0);
        money(x, 5, 176, 5, 2);
        money(x, 7, 176, 5, 2);
        money(x, 8, 176, 5, 2);
        money(x, 10, 143, 10, 1);
        // Both others together cost 13, but that is a law less.
        money(x, 13, 143, 10, 1);
        money(x, 14, 143, 10, 1);
        money(x, 15, 191, 15, 3);
        money(x, 18, 191, 15, 3);
        money(x, 22, 191, 15, 3);
        money(x, 23, 255, 23, 7);
        money(x, 200, 255, 23, 7);
        x.buy(0);
        money(x, 0, 143, 0, 0);
        x.lock(1);
        money(x, 0, 191, 0, 0);
        money(x, 8, 255, 8, 4);
        due.is("17 below", x.money(-1, 0), -2);
        due.is("17 beyond", x.money(201, 0), -2);
        due.is("17 no such what", x.money(0, 3), -2);
        due.is("17 below", x.money(0, -1), -2);
        due.is("17 status", Due.refused(x), 40000);
        VetoHouse free = new VetoHouse();
        free.deputy(0, 0, 1, 0);
        money(free, 0, 255, 0, 1);
        due.is("17 who costs nothing stops it nevertheless", free.most(), 254);
    }

    private static void money(VetoHouse x, int m, int bundle, int cost, int who) {
        due.is("17 money(" + m + ", 0)", x.money(m, 0), bundle);
        due.is("17 money(" + m + ", 1)", x.money(m, 1), cost);
        due.is("17 money(" + m + ", 2)", x.money(m, 2), who);
    }

    private static void promise18Tied() {
        VetoHouse x = new VetoHouse();
        due.is("18 nobody", x.tied(255), 1);
        due.is("18 two", x.tied(192), 64);
        // Loves 0, 2, 4, hates 1: law 1 must go with two of the loved ones.
        x.deputy(0, 21, 2, 0);
        due.is("18 the part of the least law", x.tied(2 | 4 | 16 | 8), 22);
        due.is("18 the least bits", x.tied(1 | 2 | 4 | 16), 1);
        due.is("18 nothing would be left", x.tied(1 | 2 | 4), NONE);
        due.is("18 none", x.tied(2 | 4), NONE);
        x.lock(0);
        due.is("18 by one who is locked", x.tied(2 | 4), 2);
        x.moves(6);
        due.is("18 of laws not free, too", x.tied(6), 2);
        due.is("18 one law", x.tied(4), -2);
        due.is("18 no law", x.tied(0), -2);
        due.is("18 below", x.tied(-1), -2);
        due.is("18 beyond", x.tied(259), -2);
        due.is("18 NONE is not refused", Due.refused(x), 40000);
        VetoHouse both = new VetoHouse();
        both.deputy(0, 6, 1, 0);
        both.deputy(0, 2 | 8, 4, 0);
        // Law 0 needs 1 and 2, which the second one stops but with law 3: then nothing is left.
        due.is("18 two deputies", both.tied(15), NONE);
        due.is("18 a part of them", both.tied(31), 15);
    }

    private static void promise19Alone() {
        VetoHouse x = kinds(2);
        due.is("19 hated ones are stopped", x.alone(), 63);
        due.is("19 on a day of the kept one", kinds(5).alone(), 0);
        x.moves(3);
        x.end();
        due.is("19 of all, not of free ones", x.alone(), 63);
        due.is("19 without deputies", new VetoHouse().alone(), 255);
        VetoHouse y = new VetoHouse();
        y.deputy(0, 0, 3, 0);
        y.deputy(2, 0, 4, 0);
        due.is("19 two", y.alone(), 248);
        y.buy(0);
        due.is("19 one bought", y.alone(), 251);
    }

    private static void promise20League() {
        VetoHouse x = new VetoHouse();
        due.is("20 without deputies", x.league(), 0);
        x.deputy(0, 3, 0, 0);
        due.is("20 one", x.league(), 3);
        x.deputy(1, 2, 4, 0);
        due.is("20 half is not enough", x.league(), 2);
        x.deputy(2, 4, 128, 0);
        due.is("20 a timid one has joy of what is neither", x.league(), 3);
        x.buy(0);
        x.lock(1);
        due.is("20 bought and locked ones, too", x.league(), 3);
        x.moves(1);
        x.end();
        due.is("20 of all laws", x.league(), 3);
        x.deputy(4, 0, 1, 0);
        due.is("20 two of four", x.league(), 2);
    }

    private static void promise21Courts() {
        VetoHouse x = new VetoHouse();
        due.is("21 without deputies", x.courts(1), 1);
        x.deputy(0, 0, 1, 5);
        due.is("21 of no laws all rest", x.courts(0), 4);
        due.is("21 one who stops it", x.courts(1), 2);
        due.is("21 one who does not", x.courts(2), 2);
        x.lock(0);
        due.is("21 a locked one is hired in vain", x.courts(1), 4);
        x.end();
        x.buy(0);
        due.is("21 a bought one may be hired", x.courts(1), 2);
        VetoHouse y = new VetoHouse();
        y.deputy(0, 0, 1, 5);
        y.deputy(0, 0, 2, 5);
        // The first one's choice helps against one stopper alone, the other one hires the other.
        due.is("21 nobody stops it", y.courts(4), 0);
        due.is("21 one stops it", y.courts(1), 3);
        due.is("21 two stop it", y.courts(3), 9);
        due.is("21 nothing", y.courts(0), 9);
        y.lock(1);
        due.is("21 one may stop it, one is locked", y.courts(1), 3);
        due.is("21 below", y.courts(-1), -2);
        due.is("21 beyond", y.courts(256), -2);
        due.is("21 status", Due.refused(y), 20000);
    }

    private static void promise22Gone() {
        VetoHouse x = new VetoHouse();
        due.is("22 no deputies", x.gone(0), -1);
        due.is("22 no deputies", x.gone(1), -1);
        due.is("22 NONE is not refused", Due.refused(x), 0);
        x.deputy(0, 0, 1, 0);
        x.deputy(0, 0, 2 | 4, 0);
        x.deputy(0, 0, 2 | 4, 0);
        x.deputy(0, 0, 8 | 16, 0);
        due.is("22 which", x.gone(0), 3);
        due.is("22 how many laws", x.gone(1), 5);
        x.lock(1);
        due.is("22 of like ones the first", x.gone(0), 2);
        due.is("22 besides those that are", x.gone(1), 5);
        x.end();
        x.buy(2);
        due.is("22 one is bought", x.gone(0), 1);
        due.is("22 one is bought", x.gone(1), 5);
        x.moves(32);
        due.is("22 of free laws", x.gone(1), 4);
        due.is("22 below", x.gone(-1), -2);
        due.is("22 beyond", x.gone(2), -2);
        VetoHouse none = new VetoHouse();
        due.is("22 BAD goes ahead of none", none.gone(2), -2);
        due.is("22 status", Due.refused(none), 10000);
        none.deputy(0, 255, 0, 0);
        none.deputy(0, 255, 0, 0);
        due.is("22 nobody stops anything", none.gone(0), 0);
        due.is("22 all of it", none.gone(1), 8);
    }

    /** In steps, so that no object has more than 512 calls. */
    private static void nothingIsChanged() {
        for (int first = -2; first < 258; first += 52) {
            nothingIsChanged(first, first + 52);
        }
    }

    private static void nothingIsChanged(int first, int end) {
        VetoHouse x = kinds(4);
        x.buy(2);
        x.lock(1);
        x.moves(8);
        x.note(1, 2, 3, 0);
        long before = x.digest();
        for (int n = first; n < end; n++) {
            x.stops(n);
            x.tied(n);
            x.courts(n);
            x.money(n, n % 3);
            x.gone(n);
        }
        x.most();
        x.alone();
        x.league();
        due.is("15 to 22 change nothing", x.digest(), before);
    }
}
