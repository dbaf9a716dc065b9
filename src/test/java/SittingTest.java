/** Promises 7 to 14: moves, end, buy, lock, undo, of, joy, acts. */
public final class SittingTest {
    private static final Due due = new Due("SittingTest");

    public static void main(String[] args) {
        promise7Moves();
        promise7Refused();
        promise8End();
        promise9Buy();
        promise10Lock();
        promise11Undo();
        promise11Bounds();
        promise12Of();
        promise13Joy();
        promise14Acts();
        due.finish();
    }

    /** Three deputies: the first hates law 0, the second (proud) law 1, the third law 0, too. */
    private static VetoHouse three() {
        VetoHouse x = new VetoHouse();
        x.house(1);
        x.deputy(0, 0, 1, 7);
        x.deputy(1, 0, 2, 8);
        x.deputy(3, 0, 1, 9);
        return x;
    }

    private static void promise7Moves() {
        VetoHouse x = three();
        due.is("7 nobody stops it", x.moves(4), 0);
        due.is("7 nor another", x.moves(8 | 16), 0);
        due.is("7 both are passed", x.acts(0), 28);
        due.is("7 not in force", x.acts(1), 0);
        due.is("7 the day stays", x.count(1), 1);
        x.end();
        due.is("7 another sitting", x.moves(32), 0);
        x.lock(1);
        x.buy(2);
        due.is("7 one stops it", x.moves(3), 1);
        due.is("7 what this sitting passed is undone", x.acts(0), 0);
        due.is("7 what was in force stays", x.acts(1), 28);
        due.is("7 the sitting ended", x.count(1), 3);
        due.is("7 nobody is bought then", x.of(2, 5), 0);
        due.is("7 nobody is locked then", x.of(1, 6), 0);
        due.is("7 spent stays", x.count(4), 5);
        due.is("7 all stop it now", x.moves(3), 7);
        due.is("7 an undone law is free", x.moves(32), 0);
        due.is("7 it is passed", x.acts(0), 32);
        VetoHouse none = new VetoHouse();
        due.is("7 without deputies", none.moves(255), 0);
        due.is("7 all is passed", none.acts(0), 255);
    }

    private static void promise7Refused() {
        VetoHouse x = three();
        x.moves(4);
        x.end();
        x.moves(8);
        int undone = x.count(6);
        due.is("7 nothing", x.moves(0), -2);
        due.is("7 below", x.moves(-1), -2);
        due.is("7 beyond, a law not free with it", x.moves(256 | 4), -2);
        due.is("7 one in force", x.moves(4), -3);
        due.is("7 one passed", x.moves(8), -3);
        due.is("7 one passed with others", x.moves(8 | 64), -3);
        due.is("7 one in force with what is stopped", x.moves(4 | 1), -3);
        due.is("7 passed stays", x.acts(0), 8);
        due.is("7 in force stays", x.acts(1), 4);
        due.is("7 the day stays", x.count(1), 2);
        due.is("7 nothing more to undo", x.count(6), undone);
        due.is("7 status", Due.refused(x), 30400);
    }

    private static void promise8End() {
        VetoHouse x = three();
        due.is("8 nothing passed", x.end(), 0);
        due.is("8 the day is one more", x.count(1), 2);
        x.buy(0);
        x.lock(2);
        x.moves(1 | 4);
        due.is("8 in force", x.end(), 5);
        due.is("8 nothing is passed", x.acts(0), 0);
        due.is("8 nobody is bought", x.of(0, 5), 0);
        due.is("8 nobody is locked", x.of(2, 6), 0);
        due.is("8 spent stays", x.count(4), 7);
        x.moves(128);
        due.is("8 with what was", x.end(), 133);
        VetoHouse late = new VetoHouse();
        late.house(99);
        late.end();
        due.is("8 days go on behind 99", late.count(1), 100);
    }

    private static void promise9Buy() {
        VetoHouse x = new VetoHouse();
        for (int kind = 0; kind < 6; kind++) {
            x.deputy(kind, 0, 255, 13);
        }
        int[] costs = {13, 13, 13, 7, 13, 26};
        int spent = 0;
        for (int i = 0; i < 6; i++) {
            due.is("9 buy " + i, x.buy(i), costs[i]);
            spent += costs[i];
            due.is("9 spent behind " + i, x.count(4), spent);
            due.is("9 he is bought", x.of(i, 5), 1);
            due.is("9 he stops nothing, those behind do", x.stops(1), 63 & -1 << i + 1);
        }
        due.is("9 again", x.buy(3), -3);
        due.is("9 spent stays", x.count(4), spent);
        due.is("9 below", x.buy(-1), -2);
        due.is("9 beyond", x.buy(6), -2);
        x.end();
        due.is("9 in another sitting", x.buy(3), 7);
        x.lock(4);
        due.is("9 one who is locked", x.buy(4), 13);
        due.is("9 status", Due.refused(x), 20100);
        VetoHouse cheap = new VetoHouse();
        cheap.deputy(3, 0, 0, 0);
        cheap.deputy(3, 0, 0, 1);
        due.is("9 half of nothing", cheap.buy(0), 0);
        due.is("9 half of one, cut up", cheap.buy(1), 1);
        due.is("9 one who costs nothing is bought, too", cheap.buy(0), -3);
    }

    private static void promise10Lock() {
        VetoHouse x = three();
        due.is("10 below", x.lock(-1), -2);
        due.is("10 beyond", x.lock(3), -2);
        due.is("10 lock", x.lock(0), 1);
        due.is("10 he is", x.of(0, 6), 1);
        due.is("10 nobody else is", x.of(2, 6), 0);
        due.is("10 he stops nothing", x.stops(1), 4);
        due.is("10 he is already", x.lock(0), -3);
        due.is("10 somebody else is", x.lock(1), -3);
        due.is("10 BAD goes ahead of NO", x.lock(3), -2);
        due.is("10 nothing is spent", x.count(4), 0);
        x.end();
        x.buy(1);
        due.is("10 in another sitting, one who is bought", x.lock(1), 1);
        due.is("10 status", Due.refused(x), 30200);
    }

    private static void promise11Undo() {
        VetoHouse x = three();
        due.is("11 none", x.undo(), -3);
        x.moves(4);
        x.end();
        x.moves(8);
        x.buy(0);
        x.lock(1);
        due.is("11 stopped", x.moves(1), 4);
        due.is("11 the day behind", x.count(1), 3);
        due.is("11 six", x.count(6), 6);
        due.is("11 what was stopped", x.undo(), 2);
        due.is("11 passed again", x.acts(0), 8);
        due.is("11 bought again", x.of(0, 5), 1);
        due.is("11 locked again", x.of(1, 6), 1);
        due.is("11 the lock", x.undo(), 2);
        due.is("11 not locked", x.of(1, 6), 0);
        due.is("11 still bought", x.of(0, 5), 1);
        due.is("11 the buying", x.undo(), 2);
        due.is("11 not bought", x.of(0, 5), 0);
        due.is("11 spent as ahead", x.count(4), 0);
        due.is("11 what was moved", x.undo(), 2);
        due.is("11 not passed", x.acts(0), 0);
        due.is("11 still in force", x.acts(1), 4);
        due.is("11 the end", x.undo(), 1);
        due.is("11 passed, not in force", x.acts(0), 4);
        due.is("11 not in force", x.acts(1), 0);
        due.is("11 the first", x.undo(), 1);
        due.is("11 nothing passed", x.acts(0), 0);
        due.is("11 none again", x.undo(), -3);
        due.is("11 status", Due.refused(x), 200);
    }

    private static void promise11Bounds() {
        VetoHouse x = three();
        for (int i = 0; i < 11; i++) {
            x.end();
            due.is("11 how many behind end " + i, x.count(6), Math.min(i + 1, 8));
        }
        for (int i = 0; i < 8; i++) {
            due.is("11 undo " + i, x.undo(), 11 - i);
        }
        due.is("11 eight at most", x.undo(), -3);
        x.end();
        x.note(0, 1, 1, 1);
        x.forget();
        x.buy(9);
        x.deputy(9, 0, 0, 0);
        due.is("11 a refused deputy leaves it", x.count(6), 1);
        x.deputy(0, 0, 0, 0);
        due.is("11 behind a deputy none may be", x.count(6), 0);
        due.is("11 none", x.undo(), -3);
        due.is("11 the day stays", x.count(1), 5);
        x.end();
        x.note(0, 1, 1, 1);
        due.is("11 behind that one may be", x.undo(), 5);
        due.is("11 notes stay", x.count(5), 1);
    }

    private static void promise12Of() {
        VetoHouse x = new VetoHouse();
        x.deputy(5, 170, 7, 31);
        x.deputy(3, 1, 2, 31);
        x.lock(1);
        x.buy(0);
        int[][] want = {{5, 170, 7, 31, 62, 1, 0}, {3, 1, 2, 31, 16, 0, 1}};
        for (int i = 0; i < 2; i++) {
            for (int what = 0; what < 7; what++) {
                due.is("12 of(" + i + ", " + what + ")", x.of(i, what), want[i][what]);
            }
        }
        due.is("12 no such what", x.of(0, 7), -2);
        due.is("12 below", x.of(0, -1), -2);
        due.is("12 no such deputy", x.of(2, 0), -2);
        due.is("12 below", x.of(-1, 0), -2);
        due.is("12 status", Due.refused(x), 40000);
    }

    private static void promise13Joy() {
        VetoHouse x = new VetoHouse();
        for (int kind = 0; kind < 6; kind++) {
            // law 3 is in both
            x.deputy(kind, 15, 8 | 16 | 32, 0);
        }
        int[] more = {0, 0, 2, 0, 2, 0};
        for (int i = 0; i < 6; i++) {
            due.is("13 of nothing", x.joy(i, 0), more[i]);
            due.is("13 of three loved", x.joy(i, 7), 6 + more[i]);
            due.is("13 of one of both", x.joy(i, 8), -1 + more[i]);
            due.is("13 of two hated", x.joy(i, 48), -6 + more[i]);
            due.is("13 of all", x.joy(i, 255), -1 + more[i]);
            due.is("13 of what is neither", x.joy(i, 192), more[i]);
        }
        x.buy(0);
        x.lock(1);
        due.is("13 a bought one", x.joy(0, 7), 6);
        due.is("13 a locked one", x.joy(1, 7), 6);
        due.is("13 no such bundle", x.joy(0, 256), -1000);
        due.is("13 below", x.joy(0, -1), -1000);
        due.is("13 no such deputy", x.joy(6, 0), -1000);
        due.is("13 below", x.joy(-1, 0), -1000);
        due.is("13 each counts as BAD", Due.refused(x), 40000);
    }

    private static void promise14Acts() {
        VetoHouse x = new VetoHouse();
        x.moves(3);
        x.end();
        x.moves(128);
        due.is("14 passed", x.acts(0), 128);
        due.is("14 in force", x.acts(1), 3);
        due.is("14 below", x.acts(-1), -2);
        due.is("14 beyond", x.acts(2), -2);
        due.is("14 status", Due.refused(x), 20000);
    }
}
