/** Promises 1 to 6: a new object, house, deputy, type, clear, read. */
public final class HouseTest {
    private static final Due due = new Due("HouseTest");

    public static void main(String[] args) {
        promise1NewObject();
        promise2House();
        promise3Deputy();
        promise4Type();
        promise5Clear();
        promise6Read();
        promise6ReadTakesThePlace();
        promise6Faults();
        due.finish();
    }

    private static void promise1NewObject() {
        VetoHouse x = new VetoHouse();
        for (int what = 0; what <= 7; what++) {
            due.is("1 count(" + what + ")", x.count(what), 0);
        }
        due.is("1 acts(0)", x.acts(0), 0);
        due.is("1 acts(1)", x.acts(1), 0);
        due.is("1 part(0)", x.part(0), 0);
        due.is("1 part(1)", x.part(1), 1);
        due.is("1 status", Due.refused(x), 0);
        due.is("1 of(0, 0)", x.of(0, 0), -2);
        due.is("1 from(0)", x.from(0), -3);
        due.is("1 from(1)", x.from(1), -3);
        due.is("1 undo()", x.undo(), -3);
        due.is("1 read()", x.read(), -10);
        due.is("1 status then", Due.refused(x), 10300);
    }

    private static void promise2House() {
        VetoHouse x = new VetoHouse();
        due.is("2 house(0)", x.house(0), 0);
        x.deputy(0, 1, 2, 3);
        x.deputy(1, 4, 8, 5);
        x.buy(0);
        x.lock(1);
        x.moves(1);
        x.end();
        x.moves(16);
        x.note(0, 1, 2, 1);
        x.away(2, 5);
        x.type('a');
        x.image(1);
        x.house(100);
        due.is("2 count(0) behind a refused one", x.count(0), 2);
        due.is("2 house(99)", x.house(99), 2);
        due.is("2 count(0)", x.count(0), 0);
        due.is("2 count(1)", x.count(1), 99);
        for (int what = 2; what <= 6; what++) {
            due.is("2 count(" + what + ")", x.count(what), 0);
        }
        due.is("2 the text stays", x.count(7), 1);
        due.is("2 the fraction stays above", x.part(0), 1);
        due.is("2 the fraction stays below", x.part(1), 2);
        due.is("2 status stays", Due.refused(x), 10000);
        due.is("2 house(-1)", x.house(-1), -2);
        due.is("2 house(max)", x.house(Integer.MAX_VALUE), -2);
        due.is("2 house(min)", x.house(Integer.MIN_VALUE), -2);
        due.is("2 the day stays", x.count(1), 99);
        due.is("2 the image stays", x.from(1), 1);
        due.is("2 what it kept", x.count(0), 2);
        x.buy(0);
        x.lock(0);
        x.house(7);
        x.deputy(0, 0, 0, 0);
        due.is("2 nobody is bought at first", x.of(0, 5), 0);
        due.is("2 nobody is locked at first", x.of(0, 6), 0);
    }

    private static void promise3Deputy() {
        VetoHouse x = new VetoHouse();
        int[][] wrong = {{-1, 0, 0, 0}, {6, 0, 0, 0}, {0, -1, 0, 0}, {0, 256, 0, 0}, {0, 0, -1, 0},
            {0, 0, 256, 0}, {0, 0, 0, -1}, {0, 0, 0, 41}, {Integer.MIN_VALUE, 0, 0, 0}, {0, 0, 0, Integer.MAX_VALUE}};
        for (int[] w : wrong) {
            due.is("3 a wrong deputy", x.deputy(w[0], w[1], w[2], w[3]), -2);
        }
        due.is("3 none came", x.count(0), 0);
        for (int i = 0; i < 6; i++) {
            due.is("3 deputy " + i, x.deputy(i, 255 - i, 255, 40 - i), i);
        }
        for (int i = 0; i < 6; i++) {
            due.is("3 kind of " + i, x.of(i, 0), i);
            due.is("3 love of " + i, x.of(i, 1), 255 - i);
            due.is("3 hate of " + i, x.of(i, 2), 255);
            due.is("3 price of " + i, x.of(i, 3), 40 - i);
        }
        due.is("3 BAD goes ahead of FULL", x.deputy(6, 0, 0, 0), -2);
        due.is("3 a 7th", x.deputy(0, 0, 0, 0), -4);
        due.is("3 six stay", x.count(0), 6);
        due.is("3 status", Due.refused(x), 110001);
    }

    private static void promise4Type() {
        VetoHouse x = new VetoHouse();
        due.is("4 type(-1)", x.type(-1), -2);
        due.is("4 type(128)", x.type(128), -2);
        due.is("4 nothing came", x.count(7), 0);
        for (int i = 1; i <= 150; i++) {
            due.is("4 byte " + i, x.type(i % 2 == 0 ? 0 : 127), i);
        }
        due.is("4 BAD goes ahead of FULL", x.type(128), -2);
        due.is("4 a 151st byte", x.type(32), -4);
        due.is("4 150 stay", x.count(7), 150);
        due.is("4 status", Due.refused(x), 30001);
    }

    private static void promise5Clear() {
        VetoHouse x = new VetoHouse();
        due.is("5 clear() of none", x.clear(), 0);
        for (int i = 0; i < 151; i++) {
            x.type(';');
        }
        due.is("5 clear() of all", x.clear(), 150);
        due.is("5 nothing is left", x.count(7), 0);
        due.is("5 a byte behind it", x.type(1), 1);
        due.is("5 clear() of one", x.clear(), 1);
        due.is("5 reads as an empty one", x.read(), -10);
    }

    private static void promise6Read() {
        VetoHouse x = new VetoHouse();
        due.is("6 the least", Due.read(x, "house 7;"), 1);
        due.is("6 its day", x.count(1), 7);
        due.is("6 blanks around", Due.read(x, "   house   08  ;  "), 1);
        due.is("6 its day", x.count(1), 8);
        due.is("6 no blanks", Due.read(x, "house99;deputy5 40;love0 7;hate0;law7 0;"), 5);
        due.is("6 its day", x.count(1), 99);
        due.is("6 its love", x.of(0, 1), 128);
        due.is("6 its laws", x.acts(1), 129);
        due.is("6 several", Due.read(x, "house 0;deputy 4 40;deputy 03 00;love 0 1 2;hate 01 00 7 7 3;law 5;"), 6);
        due.is("6 kind", x.of(0, 0), 4);
        due.is("6 price", x.of(0, 3), 40);
        due.is("6 love", x.of(0, 1), 6);
        due.is("6 hate of another", x.of(0, 2), 0);
        due.is("6 kind", x.of(1, 0), 3);
        due.is("6 price", x.of(1, 3), 0);
        due.is("6 love of another", x.of(1, 1), 0);
        due.is("6 hate, a law told twice", x.of(1, 2), 137);
        due.is("6 in force", x.acts(1), 32);
        due.is("6 those alone", Due.read(x, "house 1;deputy 0 1;love 0 1;love 0 2;hate 0 5;hate 0;law 1 2;law 3;"), 8);
        due.is("6 love, the last", x.of(0, 1), 4);
        due.is("6 hate, none at last", x.of(0, 2), 0);
        due.is("6 in force, the last", x.acts(1), 8);
        due.is("6 all laws", Due.read(x, "house 1;law 0 1 2 3 4 5 6 7;"), 2);
        due.is("6 all are in force", x.acts(1), 255);
        due.is("6 a law of both", Due.read(x, "house 1;deputy 1 2;love 0 3;hate 0 3;"), 4);
        due.is("6 loved", x.of(0, 1), 8);
        due.is("6 hated", x.of(0, 2), 8);
        due.is("6 nothing was refused", Due.refused(x), 0);
    }

    private static void promise6ReadTakesThePlace() {
        VetoHouse x = new VetoHouse();
        x.deputy(0, 0, 1, 2);
        x.deputy(5, 255, 255, 40);
        x.note(1, 2, 3, 1);
        x.image(0);
        x.buy(0);
        x.buy(1);
        x.lock(1);
        x.away(1, 3);
        x.moves(4);
        x.buy(9);
        due.is("6 a fault behind a house", Due.read(x, "house 4;deputy 1 1;law 1 2;love 1;"), -10 - 32);
        due.is("6 all stays: deputies", x.count(0), 2);
        due.is("6 all stays: day", x.count(1), 0);
        due.is("6 all stays: force", x.acts(1), 0);
        due.is("6 all stays: passed", x.acts(0), 4);
        due.is("6 all stays: spent", x.count(4), 82);
        due.is("6 all stays: notes", x.count(5), 1);
        due.is("6 all stays: undo", x.count(6), 4);
        due.is("6 a fault is not refused", Due.refused(x), 10000);
        due.is("6 read", Due.read(x, "house 4;deputy 1 1;law 1 2;"), 3);
        due.is("6 deputies", x.count(0), 1);
        due.is("6 day", x.count(1), 4);
        due.is("6 in force", x.count(2), 2);
        for (int what = 3; what <= 6; what++) {
            due.is("6 nothing of count(" + what + ")", x.count(what), 0);
        }
        due.is("6 nobody bought", x.of(0, 5), 0);
        due.is("6 nobody locked", x.of(0, 6), 0);
        due.is("6 the text stays", x.count(7), 27);
        due.is("6 the fraction stays", x.part(1), 1);
        due.is("6 nothing to undo", x.undo(), -3);
        due.is("6 the image stays", x.from(0), 1);
        due.is("6 what it kept", x.count(5), 1);
        due.is("6 the text read again", x.read(), 3);
    }

    private static void promise6Faults() {
        fault("", 0);
        fault("   ", 3);
        fault("house", 5);
        fault("house ", 6);
        fault("house 5", 7);
        fault("house 5 ", 8);
        fault("hous", 0);
        fault("houses 5;", 0);
        fault("mouse 5;", 0);
        fault("  House 5;", 2);
        fault("houSe 5;", 0);
        fault("deputy 0 0;", 0);
        fault(" law 1;house 1;", 1);
        fault(";house 1;", 0);
        fault("5;", 0);
        fault("house;", 5);
        fault("house 100;", 6);
        fault("house 000;", 6);
        fault("house 0 0;", 8);
        fault("house 1 ;;", 9);
        fault("house x;", 6);
        fault("house 1x;", 7);
        fault("house 1\t;", 7);
        fault("house 1;house 2;", 8);
        fault("house 1;  house", 10);
        fault("house 1;dep", 8);
        fault("house 1;deputy", 14);
        fault("house 1;deputy 6 1;", 15);
        fault("house 1;deputy 5 41;", 17);
        fault("house 1;deputy 5 040;", 17);
        fault("house 1;deputy 5;", 16);
        fault("house 1;deputy 5 1 1;", 19);
        fault("house 1;deputy 5 1", 18);
        fault("house 1;love", 12);
        fault("house 1;love 0 1;", 13);
        fault("house 1;deputy 0 0;love 1;", 24);
        fault("house 1;deputy 0 0;hate;", 23);
        fault("house 1;deputy 0 0;hate 0 8;", 26);
        fault("house 1;deputy 0 0;hate 0 1 10;", 28);
        fault("house 1;deputy 0 0;hate 0 1 001;", 28);
        fault("house 1;deputy 0 0;hate 0 1 a;", 28);
        fault("house 1;deputy 0 0;love 0 1", 27);
        fault("house 1;law", 11);
        fault("house 1;law 8;", 12);
        fault("house 1;law 1,2;", 13);
        fault("house 1;law 1;laws 2;", 14);
        fault("house 1;7;", 8);
        fault("house 1;!", 8);
        StringBuilder six = new StringBuilder("house 1;");
        for (int i = 0; i < 6; i++) {
            six.append("deputy 0 ").append(i).append(";");
        }
        VetoHouse x = new VetoHouse();
        due.is("6 six deputies", Due.read(x, six.toString()), 7);
        due.is("6 six deputies came", x.count(0), 6);
        fault(six + " deputy 0 0;", six.length() + 1);
        fault(six + "deputy", six.length());
        StringBuilder full = new StringBuilder("house 1;law");
        while (full.length() < 149) {
            full.append(" 7");
        }
        due.is("6 150 bytes", Due.read(x, full + ";"), 2);
        due.is("6 their law", x.acts(1), 128);
        x.clear();
        for (int c : new int[] {'h', 'o', 'u', 's', 'e', 0, '1', ';'}) {
            x.type(c);
        }
        due.is("6 a byte 0", x.read(), -15);
    }

    private static void fault(String text, int place) {
        VetoHouse x = new VetoHouse();
        x.house(9);
        due.is("6 a text \"" + text + "\"", Due.read(x, text), -10 - place);
        due.is("6 the day behind \"" + text + "\"", x.count(1), 9);
        due.is("6 refused behind \"" + text + "\"", Due.refused(x), 0);
    }
}
