/** Promises 23 to 29: note, forget, is, holds, tryNext, away, diets. */
public final class StoppedTest {
    private static final Due due = new Due("StoppedTest");

    public static void main(String[] args) {
        promise23Note();
        promise24Forget();
        promise25Is();
        promise26Holds();
        promise27TryNext();
        promise28Away();
        promise29Diets();
        promise29FromWhatIs();
        due.finish();
    }

    private static void promise23Note() {
        VetoHouse x = new VetoHouse();
        due.is("23 without deputies", x.note(0, 0, 0, 0), -2);
        x.deputy(0, 0, 0, 0);
        int[][] wrong = {{-1, 0, 0, 0}, {1, 0, 0, 0}, {0, -1, 0, 0}, {0, 256, 0, 0}, {0, 0, -1, 0}, {0, 0, 100, 0},
            {0, 0, 0, -1}, {0, 0, 0, 2}};
        for (int[] w : wrong) {
            due.is("23 a wrong note", x.note(w[0], w[1], w[2], w[3]), -2);
        }
        due.is("23 none came", x.count(5), 0);
        x.buy(0);
        x.lock(0);
        for (int i = 1; i <= 6; i++) {
            due.is("23 note " + i, x.note(0, 255, 99, i % 2), i);
        }
        due.is("23 BAD goes ahead of FULL", x.note(0, 0, 0, 2), -2);
        due.is("23 a 7th", x.note(0, 0, 0, 0), -4);
        due.is("23 six stay", x.count(5), 6);
        due.is("23 status", Due.refused(x), 100001);
    }

    private static void promise24Forget() {
        VetoHouse x = new VetoHouse();
        due.is("24 none", x.forget(), 0);
        x.deputy(0, 0, 1, 0);
        x.note(0, 1, 0, 0);
        x.note(0, 1, 0, 0);
        due.is("24 no kind", x.is(0), 0);
        due.is("24 two", x.forget(), 2);
        due.is("24 they are gone", x.count(5), 0);
        due.is("24 any kind", x.is(0), 63);
        due.is("24 none then", x.forget(), 0);
        due.is("24 one behind it", x.note(0, 2, 1, 1), 1);
    }

    /** One who loves laws 0, 1, 2 and hates 6, 7. */
    private static VetoHouse one(int kind) {
        VetoHouse x = new VetoHouse();
        x.deputy(kind, 7, 192, 0);
        x.deputy(0, 0, 0, 0);
        return x;
    }

    private static void promise25Is() {
        VetoHouse x = one(3);
        due.is("25 no notes", x.is(0), 63);
        x.note(0, 64 | 1, 2, 1);
        due.is("25 plain, proud, poor, kept", x.is(0), 43);
        x.note(0, 64 | 3, 2, 1);
        due.is("25 proud, kept", x.is(0), 34);
        x.note(0, 8, 5, 1);
        due.is("25 kept", x.is(0), 32);
        due.is("25 notes of another", x.is(1), 63);
        x.note(0, 8, 4, 1);
        due.is("25 none", x.is(0), 0);
        x.forget();
        x.note(0, 64, 4, 1);
        due.is("25 any", x.is(0), 63);
        x.note(0, 64, 5, 0);
        due.is("25 late", x.is(0), 16);
        x.forget();
        x.buy(0);
        x.note(0, 64, 4, 1);
        due.is("25 one who is bought now was not then", x.is(0), 63);
        x.note(0, 0, 5, 0);
        due.is("25 nobody stops no laws", x.is(0), 63);
        due.is("25 below", x.is(-1), -2);
        due.is("25 beyond", x.is(2), -2);
        due.is("25 status", Due.refused(x), 20000);
    }

    private static void promise26Holds() {
        VetoHouse x = one(0);
        due.is("26 no notes", x.holds(0, 3), 7);
        x.note(0, 8, 2, 0);
        due.is("26 not hated", x.holds(0, 3), 5);
        due.is("26 of another law", x.holds(0, 4), 7);
        due.is("26 of another deputy", x.holds(1, 3), 7);
        x.note(0, 8 | 64 | 1, 2, 0);
        due.is("26 loved", x.holds(0, 3), 1);
        due.is("26 as notes are, all else as it is", x.holds(0, 4), 0);
        x.forget();
        x.note(0, 64 | 1, 2, 1);
        due.is("26 law 6 hated alone", x.holds(0, 6), 2);
        due.is("26 law 0 loved or neither or hated", x.holds(0, 0), 7);
        VetoHouse both = new VetoHouse();
        both.deputy(0, 1, 1, 0);
        both.note(0, 1, 1, 1);
        due.is("26 a law of both is put in one alone", both.holds(0, 0), 2);
        both.forget();
        both.note(0, 1, 1, 0);
        due.is("26 a law of both is put in none", both.holds(0, 0), 5);
        VetoHouse proud = one(1);
        proud.note(0, 7 | 8, 1, 1);
        due.is("26 by the kind as it is", proud.holds(0, 3), 2);
        due.is("26 below", x.holds(0, -1), -2);
        due.is("26 beyond", x.holds(0, 8), -2);
        due.is("26 no such deputy", x.holds(2, 0), -2);
        due.is("26 below", x.holds(-1, 0), -2);
        due.is("26 status", Due.refused(x), 40000);
        due.is("26 nothing is changed", x.of(0, 1), 7);
    }

    private static void promise27TryNext() {
        VetoHouse x = one(3);
        // On day 0 law 0 parts the kept one from five, 64 none; 64 and one loved law part 4 from 2, no bundle 3 from 3.
        due.is("27 no notes", x.tryNext(0), 65);
        x.end();
        x.end();
        due.is("27 on day 2", x.tryNext(0), 65);
        x.end();
        due.is("27 on day 3", x.tryNext(0), 64 | 1);
        x.note(0, 64 | 3, 2, 1);
        due.is("27 proud or kept are not parted on day 3", x.tryNext(0), 1);
        x.end();
        x.end();
        due.is("27 but on day 5", x.tryNext(0), 1);
        x.note(0, 8, 2, 1);
        due.is("27 no kind", x.tryNext(0), -1);
        due.is("27 NONE is not refused", Due.refused(x), 0);
        due.is("27 below", x.tryNext(-1), -2);
        due.is("27 beyond", x.tryNext(2), -2);
        due.is("27 status", Due.refused(x), 20000);
    }

    private static void promise28Away() {
        VetoHouse x = new VetoHouse();
        for (int i = 0; i < 6; i++) {
            x.deputy(1, 0, 63 >> i, 0);
        }
        fraction(x, 1, 3, 729, 1000000);
        fraction(x, 1, 0, 0, 1);
        fraction(x, 1, 10, 1, 1);
        fraction(x, 2, 5, 1, 32);
        fraction(x, 4, 2, 1, 625);
        fraction(x, 8, 6, 27, 125);
        fraction(x, 16, 8, 16, 25);
        fraction(x, 32, 9, 9, 10);
        fraction(x, 64, 4, 1, 1);
        fraction(x, 64, 0, 1, 1);
        fraction(x, 0, 0, 1, 1);
        fraction(x, 1, 7, 117649, 1000000);
        due.is("28 below", x.away(-1, 1), -2);
        due.is("28 beyond", x.away(256, 1), -2);
        due.is("28 below", x.away(1, -1), -2);
        due.is("28 beyond", x.away(1, 11), -2);
        due.is("28 the fraction stays", x.part(0), 117649);
        due.is("28 status", Due.refused(x), 40000);
        x.buy(0);
        x.lock(1);
        fraction(x, 1, 4, 16, 625);
    }

    private static void fraction(VetoHouse x, int bundle, int c, long above, long below) {
        due.is("28 away(" + bundle + ", " + c + ")", x.away(bundle, c), 1);
        due.is("28 above of away(" + bundle + ", " + c + ")", x.part(0), above);
        due.is("28 below of away(" + bundle + ", " + c + ")", x.part(1), below);
    }

    private static void promise29Diets() {
        VetoHouse x = new VetoHouse();
        // X: 12345 by seed 0, cut by 65536: no laws; then 1406932606: 21468, by 256 left over: 220.
        due.is("29 none", x.diets(0, 0), 0);
        due.is("29 no laws", x.diets(0, 1), 0);
        due.is("29 five laws", x.diets(0, 2), 5);
        x.deputy(0, 0, 4, 0);
        due.is("29 stopped", x.diets(0, 2), 0);
        // Then 654583775: 9988, 4; then 1449466924: 22117, 101: laws 0, 2, 5, 6, stopped; then 229283573: 3498, 170.
        due.is("29 stopped again", x.diets(0, 4), 0);
        due.is("29 then passed", x.diets(0, 5), 4);
        due.is("29 below", x.diets(-1, 0), -2);
        due.is("29 beyond", x.diets(1000000, 0), -2);
        due.is("29 below", x.diets(0, -1), -2);
        due.is("29 beyond", x.diets(0, 31), -2);
        due.is("29 status", Due.refused(x), 40000);
        VetoHouse free = new VetoHouse();
        due.is("29 the ends", free.diets(999999, 30), 8);
    }

    private static void promise29FromWhatIs() {
        VetoHouse x = new VetoHouse();
        x.house(1);
        x.deputy(0, 0, 4, 3);
        x.moves(1);
        due.is("29 what is passed is not in force by none", x.diets(0, 0), 0);
        due.is("29 but by one", x.diets(0, 1), 1);
        due.is("29 and stays so behind a stopped one", x.diets(0, 2), 1);
        x.end();
        x.end();
        x.moves(2);
        x.buy(0);
        long before = x.digest();
        for (int seed = 0; seed < 50; seed++) {
            x.diets(seed, 30);
        }
        due.is("29 nothing is changed", x.digest(), before);
        VetoHouse bought = new VetoHouse();
        bought.house(1);
        bought.deputy(1, 0, 220, 3);
        due.is("29 stopped on the second day", bought.diets(0, 2), 0);
        bought.end();
        bought.buy(0);
        due.is("29 bought for the first sitting alone", bought.diets(0, 2), 0);
        VetoHouse kept = new VetoHouse();
        kept.house(4);
        kept.deputy(5, 0, 0, 3);
        due.is("29 by days: the second is day 5", kept.diets(0, 2), 0);
        kept.end();
        due.is("29 by days: the second is day 6", kept.diets(0, 2), 5);
    }
}
