/** Promise 6 at its boundaries: read. */
public final class ReadEdgeTest {
    private static final String DEPUTIES_6 = "house 1;" + "deputy 0 0;".repeat(6);
    private static final String[] EARLY = {"", " ", "house", "house ", "house 1", "house 1 ", "house 12",
        "house 1;deputy", "house 1;deputy ", "house 1;deputy 0", "house 1;deputy 0 ", "house 1;deputy 0 0",
        "house 1;deputy 0 0;love", "house 1;deputy 0 0;love 0", "house 1;deputy 0 0;love 0 7",
        "house 1;deputy 0 0;love 0 7 ", "house 1;deputy 0 0;hate", "house 1;deputy 0 0;hate 0",
        "house 1;deputy 0 0;hate 0 7", "house 1;law", "house 1;law ", "house 1;law 7"};
    private static final Edge edge = new Edge("ReadEdgeTest");

    public static void main(String[] args) {
        days();
        kindsAndPrices();
        deputiesThatAreThere();
        laws();
        thoseAlone();
        sixDeputies();
        figures();
        blanks();
        houseOnceFirstOfAll();
        wordsThatAreNone();
        endsTooEarly();
        endsWhereBytesWereCleared();
        everyByteAheadOfAll();
        everyByteBehindANumber();
        everyByteBehindAnItem();
        everyByteOfAWord();
        longestTexts();
        takesThePlaceOfAll();
        whatStays();
        edge.finish();
    }

    /** Faults are looked at in a crowded house: all of it stays, STATUS too. */
    private static void fault(String text, int place) {
        edge.tells("6 \"" + text + "\"", () -> Houses.type(Houses.crowded(), text), x -> x.read(), -10 - place);
    }

    private static VetoHouse items(String text, int many) {
        VetoHouse x = edge.does("6 \"" + text + "\"", () -> Houses.type(Houses.crowded(), text), y -> y.read(), many);
        edge.is("6 the text stays of \"" + text + "\"", x.count(7), text.length());
        return x;
    }

    private static void days() {
        edge.is("6 day 0", items("house 0;", 1).count(1), 0);
        edge.is("6 day 00", items("house 00;", 1).count(1), 0);
        edge.is("6 day 09", items("house 09;", 1).count(1), 9);
        edge.is("6 day 10", items("house 10;", 1).count(1), 10);
        edge.is("6 day 99", items("house 99;", 1).count(1), 99);
        fault("house 100;", 6);
        fault("house 099;", 6);
        fault("house 000;", 6);
        fault("house -1;", 6);
        fault("house 1000000000000;", 6);
        fault("house 4294967296;", 6);
        fault("house ;", 6);
        fault("house 1 1;", 8);
    }

    private static void kindsAndPrices() {
        VetoHouse x = items("house 1;deputy 0 0;deputy 5 40;deputy 05 04;", 4);
        int[][] want = {{0, 0}, {5, 40}, {5, 4}};
        for (int i = 0; i < want.length; i++) {
            edge.is("6 kind of " + i, x.of(i, 0), want[i][0]);
            edge.is("6 price of " + i, x.of(i, 3), want[i][1]);
            edge.is("6 loves nothing: " + i, x.of(i, 1), 0);
            edge.is("6 hates nothing: " + i, x.of(i, 2), 0);
        }
        fault("house 1;deputy 6 0;", 15);
        fault("house 1;deputy 10 0;", 15);
        fault("house 1;deputy 99 0;", 15);
        fault("house 1;deputy 0 41;", 17);
        fault("house 1;deputy 0 99;", 17);
        fault("house 1;deputy 0 040;", 17);
        fault("house 1;deputy 000 0;", 15);
        fault("house 1;deputy;", 14);
        fault("house 1;deputy 0;", 16);
        fault("house 1;deputy 0 0 0;", 19);
        fault("house 1;deputy a 0;", 15);
        fault("house 1;deputy 0 a;", 17);
    }

    private static void deputiesThatAreThere() {
        edge.is("6 love of 0", items("house 1;deputy 0 0;love 0 7;", 3).of(0, 1), 128);
        edge.is("6 hate of 00", items("house 1;deputy 0 0;hate 00 7;", 3).of(0, 2), 128);
        VetoHouse six = items(DEPUTIES_6 + "love 5 0;hate 5 1;", 9);
        edge.is("6 love of 5", six.of(5, 1), 1);
        edge.is("6 hate of 5", six.of(5, 2), 2);
        edge.is("6 love of 4", six.of(4, 1), 0);
        fault("house 1;love 0 7;", 13);
        fault("house 1;hate 0 7;", 13);
        fault("house 1;love 0;deputy 0 0;", 13);
        fault("house 1;deputy 0 0;love 1 7;", 24);
        fault("house 1;deputy 0 0;hate 1 7;", 24);
        fault("house 1;deputy 0 0;hate 10 7;", 24);
        fault(DEPUTIES_6 + "love 6;", 79);
        fault(DEPUTIES_6 + "hate 6;", 79);
        fault("house 1;deputy 0 0;love;", 23);
        fault("house 1;deputy 0 0;hate ;", 24);
        fault("house 1;deputy 0 0;love a;", 24);
    }

    private static void laws() {
        edge.is("6 law 0", items("house 1;law 0;", 2).acts(1), 1);
        edge.is("6 law 7", items("house 1;law 7;", 2).acts(1), 128);
        edge.is("6 law 07", items("house 1;law 07;", 2).acts(1), 128);
        edge.is("6 no law", items("house 1;law;", 2).acts(1), 0);
        edge.is("6 all laws", items("house 1;law 0 1 2 3 4 5 6 7;", 2).acts(1), 255);
        edge.is("6 a law twice", items("house 1;law 3 3;", 2).acts(1), 8);
        edge.is("6 more laws than there are", items("house 1;law 7 6 5 4 3 2 1 0 7 6 5;", 2).acts(1), 255);
        edge.is("6 loves none", items("house 1;deputy 0 0;love 0;", 3).of(0, 1), 0);
        edge.is("6 loves all", items("house 1;deputy 0 0;love 0 0 1 2 3 4 5 6 7;", 3).of(0, 1), 255);
        edge.is("6 hates none", items("house 1;deputy 0 0;hate 0;", 3).of(0, 2), 0);
        edge.is("6 hates all", items("house 1;deputy 0 0;hate 0 0 1 2 3 4 5 6 7;", 3).of(0, 2), 255);
        VetoHouse both = items("house 1;deputy 0 0;love 0 2;hate 0 2;", 4);
        edge.is("6 a law of both, loved", both.of(0, 1), 4);
        edge.is("6 a law of both, hated", both.of(0, 2), 4);
        fault("house 1;law 8;", 12);
        fault("house 1;law 08;", 12);
        fault("house 1;law 10;", 12);
        fault("house 1;law 000;", 12);
        fault("house 1;law 0 8;", 14);
        fault("house 1;law 0 007;", 14);
        fault("house 1;law 0 a;", 14);
        fault("house 1;law a;", 12);
        fault("house 1;deputy 0 0;love 0 8;", 26);
        fault("house 1;deputy 0 0;love 0 7 007;", 28);
        fault("house 1;deputy 0 0;hate 0 8;", 26);
        fault("house 1;deputy 0 0;hate 0 7 99;", 28);
    }

    private static void thoseAlone() {
        edge.is("6 love told again", items("house 1;deputy 0 0;love 0 1 2;love 0 3;", 4).of(0, 1), 8);
        edge.is("6 love told away", items("house 1;deputy 0 0;love 0 1 2;love 0;", 4).of(0, 1), 0);
        edge.is("6 hate told again", items("house 1;deputy 0 0;hate 0 1 2;hate 0 3;", 4).of(0, 2), 8);
        edge.is("6 hate told away", items("house 1;deputy 0 0;hate 0 1 2;hate 0;", 4).of(0, 2), 0);
        edge.is("6 laws told again", items("house 1;law 1 2;law 3;", 3).acts(1), 8);
        edge.is("6 laws told away", items("house 1;law 1 2;law;", 3).acts(1), 0);
    }

    private static void sixDeputies() {
        edge.is("6 six", items(DEPUTIES_6, 7).count(0), 6);
        fault(DEPUTIES_6 + "deputy 0 0;", 74);
        fault(DEPUTIES_6 + "  deputy 9 99;", 76);
        fault(DEPUTIES_6 + "deputy", 74);
        fault(DEPUTIES_6 + "law;deputy 0 0;", 78);
        edge.is("6 another item behind six", items(DEPUTIES_6 + "law 1;", 8).acts(1), 2);
    }

    private static void figures() {
        edge.is("6 two figures", items("house 12;", 1).count(1), 12);
        fault("house 123;", 6);
        fault("house 12 3;", 9);
        fault("house 123", 6);
        fault("house 1234", 6);
        fault("house 1;law 123 8;", 12);
        fault("house 1;deputy 1 234;", 17);
        fault("house 1;deputy 123;", 15);
        edge.is("6 numbers apart", items("house 1;deputy 1 23;", 2).of(0, 3), 23);
        fault("house 1;deputy 123 4;", 15);
    }

    private static void blanks() {
        edge.is("6 ahead", items("   house 5;", 1).count(1), 5);
        edge.is("6 behind", items("house 5;   ", 1).count(1), 5);
        edge.is("6 between", items("house    5   ;", 1).count(1), 5);
        edge.is("6 none of them", items("house5;deputy5 7;love0 1;hate0;law;", 5).of(0, 3), 7);
        fault("hou se 5;", 0);
        fault("house 1;de puty 0 0;", 8);
        fault("house 1;deputy 0 0 ; love 0 8 ;", 28);
        fault(" ".repeat(150), 150);
        fault(" ".repeat(149) + ";", 149);
    }

    private static void houseOnceFirstOfAll() {
        fault("deputy 0 0;house 1;", 0);
        fault("love 0;house 1;", 0);
        fault("hate 0;house 1;", 0);
        fault("  law;house 1;", 2);
        fault(";house 1;", 0);
        fault("1;", 0);
        fault("house 1;house 1;", 8);
        fault("house 1;law 1;house 1;", 14);
        fault("house 1; house", 9);
        fault("house house 1;", 6);
        fault("house 1 house 1;", 8);
    }

    private static void wordsThatAreNone() {
        fault("hous 1;", 0);
        fault("houses 1;", 0);
        fault("mouse 1;", 0);
        fault("housf 1;", 0);
        fault("House 1;", 0);
        fault("h", 0);
        fault("house 1;deput 0 0;", 8);
        fault("house 1;deputys 0 0;", 8);
        fault("house 1;lov 0;", 8);
        fault("house 1;loves 0;", 8);
        fault("house 1;hat 0;", 8);
        fault("house 1;hates 0;", 8);
        fault("house 1;la 0;", 8);
        fault("house 1;laws 0;", 8);
        fault("house 1;lawlaw;", 8);
        fault("house 1;x", 8);
        fault("house 1;dep", 8);
        fault("house 1;;", 8);
        fault("house 1; 7;", 9);
        fault("house 1;law 1 law 2;", 14);
    }

    private static void endsTooEarly() {
        for (String text : EARLY) {
            fault(text, text.length());
        }
        edge.tells("6 an empty one of a new object", Houses::fresh, x -> x.read(), -10);
        edge.tells("6 an empty one of an ordinary house", () -> {
            VetoHouse x = Houses.ordinary();
            x.clear();
            return x;
        }, x -> x.read(), -10);
    }

    /** Bytes that were cleared are not read, whatever they were. */
    private static void endsWhereBytesWereCleared() {
        for (char old : new char[] {' ', ';', '0', 'e', 's', 127}) {
            for (String text : EARLY) {
                edge.does("6 \"" + text + "\" over cleared bytes " + (int) old, () -> cleared(old, text),
                    x -> x.read(), -10 - text.length());
            }
            edge.does("6 a whole text over cleared bytes " + (int) old, () -> cleared(old, "house 1;"),
                x -> x.read(), 1);
        }
    }

    private static VetoHouse cleared(char old, String text) {
        VetoHouse x = Houses.type(Houses.fresh(), String.valueOf(old).repeat(150));
        x.clear();
        return Houses.type(x, text);
    }

    private static VetoHouse typed(String ahead, int c, String behind) {
        VetoHouse x = Houses.type(Houses.fresh(), ahead);
        x.type(c);
        return Houses.type(x, behind);
    }

    private static boolean isFigure(int c) {
        return c >= '0' && c <= '9';
    }

    private static void everyByteAheadOfAll() {
        for (int c = 0; c <= 127; c++) {
            int b = c;
            long answer = b == ' ' ? 1 : -10;
            edge.does("6 byte " + b + " ahead of all", () -> typed("", b, "house 1;"), x -> x.read(), answer);
        }
    }

    private static void everyByteBehindANumber() {
        for (int c = 0; c <= 127; c++) {
            int b = c;
            long answer = b == ';' ? 1 : b == ' ' || isFigure(b) ? -10 - 8 : -10 - 7;
            edge.does("6 byte " + b + " behind a number", () -> typed("house 1", b, ""), x -> x.read(), answer);
        }
    }

    private static void everyByteBehindAnItem() {
        for (int c = 0; c <= 127; c++) {
            int b = c;
            long answer = b == ' ' ? 1 : -10 - 8;
            edge.does("6 byte " + b + " behind an item", () -> typed("house 1;", b, ""), x -> x.read(), answer);
            if (!isFigure(b) && b != ' ' && b != ';') {
                edge.does("6 byte " + b + " behind a law", () -> typed("house 1;law 0", b, ";"), x -> x.read(),
                    -10 - 13);
            }
        }
        for (int figure = 0; figure <= 9; figure++) {
            int f = figure;
            long answer = f <= 7 ? 2 : -10 - 12;
            edge.does("6 law 0" + f, () -> typed("house 1;law 0", '0' + f, ";"), x -> x.read(), answer);
            edge.does("6 law " + f, () -> typed("house 1;law ", '0' + f, ";"), x -> x.read(), answer);
        }
    }

    private static void everyByteOfAWord() {
        for (int c = 0; c <= 127; c++) {
            int b = c;
            edge.does("6 byte " + b + " in a word", () -> typed("hous", b, " 1;"), x -> x.read(), b == 'e' ? 1 : -10);
            boolean letter = b >= 'a' && b <= 'z';
            long answer = b == ' ' ? 1 : letter ? -10 : isFigure(b) ? -10 - 7 : -10 - 5;
            edge.does("6 byte " + b + " behind a word", () -> typed("house", b, " 1;"), x -> x.read(), answer);
        }
    }

    private static void longestTexts() {
        VetoHouse x = items(Houses.LONGEST, 5);
        edge.is("6 150 bytes", Houses.LONGEST.length(), 150);
        edge.is("6 their day", x.count(1), 9);
        edge.is("6 their law", x.acts(1), 2);
        String open = Houses.LONGEST.substring(0, 149);
        fault(open, 149);
        fault(open + " ", 150);
        fault(open + "8", 149);
        fault(open + "x", 149);
        fault(open + "1", 150);
        String closed = "house 1;law" + " ".repeat(137) + ";";
        edge.is("6 149 bytes", closed.length(), 149);
        items(closed, 2);
        items(closed + " ", 2);
        fault(closed + ";", 149);
        fault(closed + "d", 149);
        String many = "house 1;" + "law;".repeat(35);
        edge.is("6 as many items as there is room for", many.length(), 148);
        items(many, 36);
    }

    private static void takesThePlaceOfAll() {
        VetoHouse x = items("house 8;deputy 3 9;law 2;", 3);
        edge.is("6 deputies", x.count(0), 1);
        edge.is("6 the day", x.count(1), 8);
        edge.is("6 in force, as told alone", x.acts(1), 4);
        edge.is("6 nothing passed", x.acts(0), 0);
        edge.is("6 spent", x.count(4), 0);
        edge.is("6 notes", x.count(5), 0);
        edge.is("6 nothing to undo", x.count(6), 0);
        edge.is("6 nothing to undo", x.undo(), -3);
        edge.is("6 deputy 1 is gone", x.of(1, 0), -2);
        edge.is("6 not bought", x.of(0, 5), 0);
        edge.is("6 not locked", x.of(0, 6), 0);
        edge.is("6 somebody may be locked", x.lock(0), 1);
        edge.is("6 the one who was bought may be", x.buy(0), 5);
        edge.is("6 no notes of the old one", x.is(0), 63);
        VetoHouse none = items("house 0;", 1);
        for (int what = 0; what <= 6; what++) {
            edge.is("6 the least house: count(" + what + ")", none.count(what), 0);
        }
        edge.is("6 all laws are free", none.most(), 255);
        for (int i = 0; i < 6; i++) {
            edge.is("6 deputy " + i + " comes anew", none.deputy(0, 0, 0, 0), i);
        }
    }

    private static void whatStays() {
        VetoHouse x = Houses.type(Houses.crowded(), "house 8;");
        x.from(0);
        long first = x.digest();
        x.from(1);
        long second = x.digest();
        x.buy(9);
        x.lock(0);
        x.lock(1);
        int refused = Due.refused(x);
        edge.is("6 read", x.read(), 1);
        edge.is("6 status stays", Due.refused(x), refused);
        edge.is("6 the fraction stays above", x.part(0), 729);
        edge.is("6 the fraction stays below", x.part(1), 1000);
        edge.is("6 image 0 stays", x.from(0), 1);
        edge.is("6 image 0 is as it was", x.digest(), first);
        edge.is("6 image 1 stays", x.from(1), 1);
        edge.is("6 image 1 is as it was", x.digest(), second);
        edge.is("6 the text stays", x.read(), 1);
        edge.is("6 the day read again", x.count(1), 8);
    }
}
