import java.util.Random;

/** Rule 7 of the language: no call ever throws or fails to end, for any arguments in any state; behind 512 calls, too. */
public final class WildTest {
    private static final int RUNS = 60;
    private static final int CALLS = 5000;
    private static final int[] ENDS = {Integer.MIN_VALUE, Integer.MIN_VALUE + 1, -256, -32, -2, -1, 0, 1, 2, 3, 5, 6, 7,
        8, 10, 11, 30, 31, 32, 40, 41, 63, 64, 99, 100, 127, 128, 150, 200, 201, 255, 256, 999999, 1000000,
        Integer.MAX_VALUE - 1, Integer.MAX_VALUE};
    private static final String LETTERS = "house deputy love hate law 0123456789;;;  ";
    private static final Due due = new Due("WildTest");

    public static void main(String[] args) {
        for (int run = 0; run < RUNS; run++) {
            oneRun(new Random(run), run);
        }
        due.finish();
    }

    private static void oneRun(Random random, int run) {
        VetoHouse x = new VetoHouse();
        for (int i = 0; i < CALLS; i++) {
            int call = random.nextInt(34);
            try {
                ask(x, call, random);
            } catch (RuntimeException | StackOverflowError e) {
                due.holds("run " + run + ", call " + i + " (" + call + ") threw " + e, false);
                return;
            }
        }
        due.holds("run " + run + " went to its end", true);
        due.holds("run " + run + ": 0 .. 6 deputies", x.count(0) >= 0 && x.count(0) <= 6);
        due.holds("run " + run + ": 0 .. 6 notes", x.count(5) >= 0 && x.count(5) <= 6);
        due.holds("run " + run + ": 0 .. 8 to undo", x.count(6) >= 0 && x.count(6) <= 8);
        due.holds("run " + run + ": 0 .. 150 bytes", x.count(7) >= 0 && x.count(7) <= 150);
        due.holds("run " + run + ": no law is both passed and in force", (x.acts(0) & x.acts(1)) == 0);
    }

    /** Small numbers mostly, else no state comes about; then those at the ends, then any. */
    private static int some(Random random) {
        int how = random.nextInt(10);
        if (how < 7) {
            return random.nextInt(6);
        }
        return how < 9 ? ENDS[random.nextInt(ENDS.length)] : random.nextInt();
    }

    private static long ask(VetoHouse x, int call, Random random) {
        int a = some(random);
        int b = some(random);
        int c = some(random);
        int d = some(random);
        switch (call) {
            case 0: return random.nextInt(20) == 0 ? x.house(a) : 0;
            case 1: return x.deputy(a, b, c, d);
            case 2: return x.type(random.nextInt(4) == 0 ? a : LETTERS.charAt(random.nextInt(LETTERS.length())));
            case 3: return x.clear();
            case 4: return random.nextBoolean() ? Due.read(x, "house 1;deputy 5 9;law 1 2;") : x.read();
            case 5: return x.moves(a);
            case 6: return x.end();
            case 7: return x.buy(a);
            case 8: return x.lock(a);
            case 9: return x.undo();
            case 10: return x.of(a, b);
            case 11: return x.joy(a, b);
            case 12: return x.acts(a);
            case 13: return x.stops(a);
            case 14: return x.most();
            case 15: return x.money(a, b);
            case 16: return x.tied(a);
            case 17: return x.alone();
            case 18: return x.league();
            case 19: return x.courts(a);
            case 20: return x.gone(a);
            case 21: return x.note(a, b, c, d);
            case 22: return x.forget();
            case 23: return x.is(a);
            case 24: return x.holds(a, b);
            case 25: return x.tryNext(a);
            case 26: return x.away(a, b);
            case 27: return x.diets(a, b);
            case 28: return x.part(a);
            case 29: return x.image(a);
            case 30: return x.from(a);
            case 31: return x.status(a);
            case 32: return x.count(a);
            default: return x.digest();
        }
    }
}
