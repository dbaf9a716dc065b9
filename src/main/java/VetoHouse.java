/**
 * A house in which any one deputy may stop a bundle of laws, and with it all
 * that the sitting has passed. README.md tells how to use it.
 */
public final class VetoHouse {
    public static final int NONE = -1, BAD = -2, NO = -3, FULL = -4;

    private static final int NO_JOY = -1000;
    private static final int NO_STATUS = -1;
    private static final int FAULT_BASE = -10;
    private static final int LAWS = 8;
    private static final int ALL_LAWS = 255;
    private static final int KINDS = 6;
    private static final int MOST_DEPUTIES = 6;
    private static final int MOST_NOTES = 6;
    private static final int MOST_UNDONE = 8;
    private static final int MOST_BYTES = 150;
    private static final int LAST_DAY = 99;
    private static final int LAST_BYTE = 127;
    private static final int HIGHEST_PRICE = 40;
    private static final int MOST_MONEY = 200;
    private static final int TENTHS = 10;
    private static final int LAST_SEED = 999999;
    private static final int MOST_DIETS = 30;
    private static final int COUNTS = 8;
    private static final long DIGEST_START = 1187;

    private final Plain[] kinds;
    private final House now;
    private final House draft;
    private final House[] images;
    private final boolean[] kept;
    private final Sitting trial;
    private final Text text;
    private long above;
    private long below;
    private int bads;
    private int noes;
    private int fulls;

    public VetoHouse() {
        kinds = new Plain[] {new Plain(), new Proud(), new Timid(), new Poor(), new Late(), new Kept()};
        now = new House();
        draft = new House();
        images = new House[] {new House(), new House()};
        kept = new boolean[images.length];
        trial = new Sitting();
        text = new Text();
        above = 0;
        below = 1;
    }

    // ---- a house

    public int house(int day) {
        if (!within(day, LAST_DAY)) {
            return refuse(BAD);
        }
        int before = now.deputyCount;
        now.startOn(day);
        return before;
    }

    public int deputy(int kind, int love, int hate, int price) {
        if (!within(kind, KINDS - 1) || !isBundle(love) || !isBundle(hate) || !within(price, HIGHEST_PRICE)) {
            return refuse(BAD);
        }
        if (now.deputyCount >= MOST_DEPUTIES) {
            return refuse(FULL);
        }
        now.addDeputy(kind, love, hate, price);
        return now.deputyCount - 1;
    }

    public int type(int c) {
        if (!within(c, LAST_BYTE)) {
            return refuse(BAD);
        }
        if (text.length >= MOST_BYTES) {
            return refuse(FULL);
        }
        text.append(c);
        return text.length;
    }

    public int clear() {
        int before = text.length;
        text.length = 0;
        return before;
    }

    public int read() {
        // A draft is read first: behind a fault the house itself must be as it was.
        int answer = draft.readFrom(text);
        if (answer > 0) {
            now.copyFrom(draft);
        }
        return answer;
    }

    // ---- a sitting

    public int moves(int bundle) {
        if (!isBundle(bundle) || bundle == 0) {
            return refuse(BAD);
        }
        if ((bundle & ~now.sitting.freeLaws()) != 0) {
            return refuse(NO);
        }
        now.remember();
        return moveIn(now.sitting, bundle);
    }

    public int end() {
        now.remember();
        now.sitting.close();
        return now.sitting.force;
    }

    public int buy(int deputy) {
        Deputy d = now.deputyAt(deputy);
        if (d == null) {
            return refuse(BAD);
        }
        if ((now.sitting.bought & bitOf(deputy)) != 0) {
            return refuse(NO);
        }
        now.remember();
        int cost = costOf(d);
        now.sitting.bought |= bitOf(deputy);
        now.sitting.spent += cost;
        return cost;
    }

    public int lock(int deputy) {
        if (now.deputyAt(deputy) == null) {
            return refuse(BAD);
        }
        if (now.sitting.locked != 0) {
            return refuse(NO);
        }
        now.remember();
        now.sitting.locked = bitOf(deputy);
        return 1;
    }

    public int undo() {
        if (now.pastCount == 0) {
            return refuse(NO);
        }
        now.goBack();
        return now.sitting.day;
    }

    public int of(int deputy, int what) {
        Deputy d = now.deputyAt(deputy);
        if (d == null) {
            return refuse(BAD);
        }
        switch (what) {
            case 0:
                return d.kind;
            case 1:
                return d.love;
            case 2:
                return d.hate;
            case 3:
                return d.price;
            case 4:
                return costOf(d);
            case 5:
                return oneIf((now.sitting.bought & bitOf(deputy)) != 0);
            case 6:
                return oneIf((now.sitting.locked & bitOf(deputy)) != 0);
            default:
                return refuse(BAD);
        }
    }

    public int joy(int deputy, int bundle) {
        Deputy d = now.deputyAt(deputy);
        if (d == null || !isBundle(bundle)) {
            refuse(BAD);
            return NO_JOY;
        }
        return joyFor(d, bundle);
    }

    public int acts(int what) {
        switch (what) {
            case 0:
                return now.sitting.passed;
            case 1:
                return now.sitting.force;
            default:
                return refuse(BAD);
        }
    }

    // ---- what can pass

    public int stops(int bundle) {
        return isBundle(bundle) ? stoppers(now.sitting, bundle) : refuse(BAD);
    }

    public int most() {
        return bestBundle(NONE, 0);
    }

    public int money(int m, int what) {
        if (!within(m, MOST_MONEY) || !within(what, 2)) {
            return refuse(BAD);
        }
        int bundle = bestBundle(m, 0);
        if (what == 0) {
            return bundle;
        }
        int who = stoppers(now.sitting, bundle);
        return what == 1 ? costOfAll(who) : who;
    }

    public int tied(int bundle) {
        if (!isBundle(bundle) || Integer.bitCount(bundle) < 2) {
            return refuse(BAD);
        }
        int least = bundle & -bundle;
        for (int part = least; part < bundle; part++) {
            boolean fits = (part & ~bundle) == 0 && (part & least) != 0;
            if (fits && stoppers(now.sitting, part) == 0 && stoppers(now.sitting, bundle & ~part) == 0) {
                return part;
            }
        }
        return NONE;
    }

    public int alone() {
        int laws = 0;
        for (int law = 0; law < LAWS; law++) {
            if (stoppers(now.sitting, bitOf(law)) == 0) {
                laws |= bitOf(law);
            }
        }
        return laws;
    }

    public int league() {
        int laws = 0;
        for (int law = 0; law < LAWS; law++) {
            if (2 * gladOf(bitOf(law)) > now.deputyCount) {
                laws |= bitOf(law);
            }
        }
        return laws;
    }

    public int courts(int bundle) {
        if (!isBundle(bundle)) {
            return refuse(BAD);
        }
        int who = stoppers(now.sitting, bundle);
        int resting = 0;
        for (int bought = NONE; bought < now.deputyCount; bought++) {
            for (int hired = NONE; hired < now.deputyCount; hired++) {
                resting += oneIf(pairRests(bundle, who, bought, hired));
            }
        }
        return resting;
    }

    public int gone(int what) {
        if (!within(what, 1)) {
            return refuse(BAD);
        }
        int which = NONE;
        int laws = NONE;
        for (int i = 0; i < now.deputyCount; i++) {
            int had = Integer.bitCount(bestBundle(NONE, bitOf(i)));
            if (had > laws) {
                which = i;
                laws = had;
            }
        }
        return what == 0 ? which : laws;
    }

    // ---- what he stopped

    public int note(int deputy, int bundle, int d, int stopped) {
        if (now.deputyAt(deputy) == null || !isBundle(bundle) || !within(d, LAST_DAY) || !within(stopped, 1)) {
            return refuse(BAD);
        }
        if (now.noteCount >= MOST_NOTES) {
            return refuse(FULL);
        }
        now.addNote(deputy, bundle, d, stopped);
        return now.noteCount;
    }

    public int forget() {
        int before = now.noteCount;
        now.noteCount = 0;
        return before;
    }

    public int is(int deputy) {
        Deputy d = now.deputyAt(deputy);
        return d == null ? refuse(BAD) : kindsThatFit(deputy, d);
    }

    public int holds(int deputy, int law) {
        Deputy d = now.deputyAt(deputy);
        if (d == null || !within(law, LAWS - 1)) {
            return refuse(BAD);
        }
        int bit = bitOf(law);
        int love = d.love & ~bit;
        int hate = d.hate & ~bit;
        int loved = oneIf(notesFit(deputy, d.kind, love | bit, hate));
        int hated = oneIf(notesFit(deputy, d.kind, love, hate | bit));
        int neither = oneIf(notesFit(deputy, d.kind, love, hate));
        return loved | hated << 1 | neither << 2;
    }

    public int tryNext(int deputy) {
        Deputy d = now.deputyAt(deputy);
        if (d == null) {
            return refuse(BAD);
        }
        int may = kindsThatFit(deputy, d);
        if (may == 0) {
            return NONE;
        }
        int all = Integer.bitCount(may);
        int best = NONE;
        int least = all + 1;
        for (int bundle = 1; bundle <= ALL_LAWS; bundle++) {
            int stopping = Integer.bitCount(may & kindsThatStop(d, bundle));
            int greater = Math.max(stopping, all - stopping);
            if (greater < least) {
                least = greater;
                best = bundle;
            }
        }
        return best;
    }

    public int away(int bundle, int c) {
        if (!isBundle(bundle) || !within(c, TENTHS)) {
            return refuse(BAD);
        }
        int up = c;
        int down = TENTHS;
        // Ten has no prime divisors but these two; powers of what is left have no common divisor either.
        if (up % 2 == 0) {
            up /= 2;
            down /= 2;
        }
        if (up % 5 == 0) {
            up /= 5;
            down /= 5;
        }
        int stopping = Integer.bitCount(stoppers(now.sitting, bundle));
        above = 1;
        below = 1;
        for (int i = 0; i < stopping; i++) {
            above *= up;
            below *= down;
        }
        return 1;
    }

    public int diets(int seed, int n) {
        if (!within(seed, LAST_SEED) || !within(n, MOST_DIETS)) {
            return refuse(BAD);
        }
        trial.copyFrom(now.sitting);
        long x = seed;
        for (int i = 0; i < n; i++) {
            x = (x * 1103515245L + 12345L) % 2147483648L;
            int laws = (int) (x / 65536L % 256L);
            if (moveIn(trial, laws & trial.freeLaws()) == 0) {
                trial.close();
            }
        }
        return Integer.bitCount(trial.force);
    }

    // ---- what there is

    public long part(int what) {
        if (!within(what, 1)) {
            return refuse(BAD);
        }
        return what == 0 ? above : below;
    }

    public int image(int i) {
        if (!within(i, images.length - 1)) {
            return refuse(BAD);
        }
        images[i].copyFrom(now);
        kept[i] = true;
        return 1;
    }

    public int from(int i) {
        if (!within(i, images.length - 1)) {
            return refuse(BAD);
        }
        if (!kept[i]) {
            return refuse(NO);
        }
        now.copyFrom(images[i]);
        return 1;
    }

    public int status(int what) {
        switch (what) {
            case 0:
                return bads;
            case 1:
                return noes;
            case 2:
                return fulls;
            default:
                refuse(BAD);
                return NO_STATUS;
        }
    }

    public int count(int what) {
        return within(what, COUNTS - 1) ? howMany(what) : refuse(BAD);
    }

    public long digest() {
        long h = DIGEST_START;
        for (int what = 0; what < COUNTS; what++) {
            h = 31 * h + howMany(what);
        }
        h = 31 * h + now.sitting.passed;
        h = 31 * h + now.sitting.force;
        for (int i = 0; i < MOST_DEPUTIES; i++) {
            h = deputyIntoDigest(h, i);
        }
        for (int i = 0; i < MOST_NOTES; i++) {
            h = noteIntoDigest(h, i);
        }
        h = 31 * h + above;
        return 31 * h + below;
    }

    // ---- what the calls share

    private static boolean within(int n, int last) {
        return n >= 0 && n <= last;
    }

    private static boolean isBundle(int n) {
        return within(n, ALL_LAWS);
    }

    private static int oneIf(boolean yes) {
        return yes ? 1 : 0;
    }

    /** The bit of a law or a deputy; none has no bit. */
    private static int bitOf(int n) {
        return n < 0 ? 0 : 1 << n;
    }

    private int refuse(int reason) {
        switch (reason) {
            case BAD:
                bads++;
                break;
            case NO:
                noes++;
                break;
            default:
                fulls++;
                break;
        }
        return reason;
    }

    private Plain kindAt(int kind) {
        return kinds[within(kind, kinds.length - 1) ? kind : 0];
    }

    private int costOf(Deputy d) {
        return kindAt(d.kind).costAt(d.price);
    }

    private int costOfAll(int who) {
        int cost = 0;
        for (int i = 0; i < now.deputyCount; i++) {
            Deputy d = now.deputyAt(i);
            if (d != null && (who & bitOf(i)) != 0) {
                cost += costOf(d);
            }
        }
        return cost;
    }

    private int joyFor(Deputy d, int bundle) {
        return kindAt(d.kind).joyBy(Integer.bitCount(d.love & bundle), Integer.bitCount(d.hate & bundle));
    }

    /** How many have joy of it, the bought and the locked ones too. */
    private int gladOf(int bundle) {
        int glad = 0;
        for (int i = 0; i < now.deputyCount; i++) {
            Deputy d = now.deputyAt(i);
            glad += oneIf(d != null && joyFor(d, bundle) > 0);
        }
        return glad;
    }

    /** Whether one of that kind would, neither bought nor locked. */
    private boolean wouldStop(int kind, int love, int hate, int bundle, int day) {
        if (bundle == 0) {
            return false;
        }
        Plain k = kindAt(kind);
        int hated = Integer.bitCount(hate & bundle);
        return k.refuses(k.joyBy(Integer.bitCount(love & bundle), hated), hated, day);
    }

    private int stoppers(Sitting at, int bundle) {
        int still = at.bought | at.locked;
        int who = 0;
        for (int i = 0; i < now.deputyCount; i++) {
            Deputy d = now.deputyAt(i);
            if (d != null && (still & bitOf(i)) == 0 && wouldStop(d.kind, d.love, d.hate, bundle, at.day)) {
                who |= bitOf(i);
            }
        }
        return who;
    }

    /** Who stops it; none: it is passed (a bundle of no laws, too, which changes nothing). */
    private int moveIn(Sitting at, int bundle) {
        int who = stoppers(at, bundle);
        if (who == 0) {
            at.passed |= bundle;
        } else {
            at.passed = 0;
            at.close();
        }
        return who;
    }

    /**
     * The bundle of most free laws, of like ones of least bits, whose stoppers
     * but for those in spared are none or cost m or less. With m NONE nobody
     * may be bought, not even one who costs nothing.
     */
    private int bestBundle(int m, int spared) {
        int free = now.sitting.freeLaws();
        int best = 0;
        for (int bundle = 1; bundle <= ALL_LAWS; bundle++) {
            if ((bundle & ~free) == 0 && Integer.bitCount(bundle) > Integer.bitCount(best)) {
                int who = stoppers(now.sitting, bundle) & ~spared;
                if (who == 0 || costOfAll(who) <= m) {
                    best = bundle;
                }
            }
        }
        return best;
    }

    private boolean stoppedBetween(int bundle, int who, int bought, int hired) {
        int anyhow = bitOf(hired) & ~now.sitting.locked;
        return bundle != 0 && ((who | anyhow) & ~bitOf(bought)) != 0;
    }

    private boolean pairRests(int bundle, int who, int bought, int hired) {
        boolean stopped = stoppedBetween(bundle, who, bought, hired);
        for (int other = NONE; other < now.deputyCount; other++) {
            boolean otherwise = stopped
                    ? stoppedBetween(bundle, who, other, hired)
                    : stoppedBetween(bundle, who, bought, other);
            if (otherwise != stopped) {
                return false;
            }
        }
        return true;
    }

    private boolean notesFit(int deputy, int kind, int love, int hate) {
        for (int i = 0; i < now.noteCount; i++) {
            Note n = now.noteAt(i);
            if (n != null && n.deputy == deputy
                    && wouldStop(kind, love, hate, n.bundle, n.day) != (n.stopped == 1)) {
                return false;
            }
        }
        return true;
    }

    private int kindsThatFit(int deputy, Deputy d) {
        int fitting = 0;
        for (int kind = 0; kind < KINDS; kind++) {
            if (notesFit(deputy, kind, d.love, d.hate)) {
                fitting |= bitOf(kind);
            }
        }
        return fitting;
    }

    private int kindsThatStop(Deputy d, int bundle) {
        int stopping = 0;
        for (int kind = 0; kind < KINDS; kind++) {
            if (wouldStop(kind, d.love, d.hate, bundle, now.sitting.day)) {
                stopping |= bitOf(kind);
            }
        }
        return stopping;
    }

    private int howMany(int what) {
        switch (what) {
            case 0:
                return now.deputyCount;
            case 1:
                return now.sitting.day;
            case 2:
                return Integer.bitCount(now.sitting.force);
            case 3:
                return Integer.bitCount(now.sitting.passed);
            case 4:
                return now.sitting.spent;
            case 5:
                return now.noteCount;
            case 6:
                return now.pastCount;
            default:
                return text.length;
        }
    }

    private long deputyIntoDigest(long before, int i) {
        Deputy d = now.deputyAt(i);
        if (d == null) {
            return before;
        }
        long h = 31 * before + d.kind;
        h = 31 * h + d.love;
        h = 31 * h + d.hate;
        h = 31 * h + d.price;
        h = 31 * h + oneIf((now.sitting.bought & bitOf(i)) != 0);
        return 31 * h + oneIf((now.sitting.locked & bitOf(i)) != 0);
    }

    private long noteIntoDigest(long before, int i) {
        Note n = now.noteAt(i);
        if (n == null) {
            return before;
        }
        long h = 31 * before + n.deputy;
        h = 31 * h + n.bundle;
        h = 31 * h + n.day;
        return 31 * h + n.stopped;
    }

    // ---- the kinds, each under the one told

    private static class Plain {
        int joyBy(int loved, int hated) {
            return 2 * loved - 3 * hated;
        }

        boolean refuses(int joy, int hated, int day) {
            return joy < 0;
        }

        int costAt(int price) {
            return price;
        }
    }

    private static class Proud extends Plain {
        boolean refuses(int joy, int hated, int day) {
            return super.refuses(joy, hated, day) || hated > 0;
        }
    }

    private static class Timid extends Plain {
        int joyBy(int loved, int hated) {
            return super.joyBy(loved, hated) + 2;
        }
    }

    private static final class Poor extends Plain {
        int costAt(int price) {
            return (super.costAt(price) + 1) / 2;
        }
    }

    private static final class Late extends Timid {
        boolean refuses(int joy, int hated, int day) {
            return day % 2 == 0 && super.refuses(joy, hated, day);
        }
    }

    private static final class Kept extends Proud {
        boolean refuses(int joy, int hated, int day) {
            return super.refuses(joy, hated, day) || day % 5 == 0;
        }

        int costAt(int price) {
            return 2 * super.costAt(price);
        }
    }

    // ---- what is held

    /** All that undo gives back, and nothing else. */
    private static final class Sitting {
        int day;
        int passed;
        int force;
        int bought;
        int locked;
        int spent;

        void startOn(int first) {
            day = first;
            passed = 0;
            force = 0;
            bought = 0;
            locked = 0;
            spent = 0;
        }

        void copyFrom(Sitting other) {
            day = other.day;
            passed = other.passed;
            force = other.force;
            bought = other.bought;
            locked = other.locked;
            spent = other.spent;
        }

        void close() {
            force |= passed;
            passed = 0;
            bought = 0;
            locked = 0;
            day++;
        }

        int freeLaws() {
            return ALL_LAWS & ~(passed | force);
        }
    }

    private static final class Deputy {
        int kind;
        int love;
        int hate;
        int price;

        void copyFrom(Deputy other) {
            kind = other.kind;
            love = other.love;
            hate = other.hate;
            price = other.price;
        }
    }

    private static final class Note {
        int deputy;
        int bundle;
        int day;
        int stopped;

        void copyFrom(Note other) {
            deputy = other.deputy;
            bundle = other.bundle;
            day = other.day;
            stopped = other.stopped;
        }
    }

    /** All that an image keeps. Its rows are made once and used again, so that no call makes any. */
    private static final class House {
        final Sitting sitting;
        final Deputy[] deputies;
        final Note[] notes;
        final Sitting[] past;
        int deputyCount;
        int noteCount;
        int pastCount;

        House() {
            sitting = new Sitting();
            deputies = new Deputy[MOST_DEPUTIES];
            for (int i = 0; i < deputies.length; i++) {
                deputies[i] = new Deputy();
            }
            notes = new Note[MOST_NOTES];
            for (int i = 0; i < notes.length; i++) {
                notes[i] = new Note();
            }
            past = new Sitting[MOST_UNDONE];
            for (int i = 0; i < past.length; i++) {
                past[i] = new Sitting();
            }
        }

        void startOn(int day) {
            sitting.startOn(day);
            deputyCount = 0;
            noteCount = 0;
            pastCount = 0;
        }

        void copyFrom(House other) {
            sitting.copyFrom(other.sitting);
            for (int i = 0; i < deputies.length && i < other.deputies.length; i++) {
                deputies[i].copyFrom(other.deputies[i]);
            }
            for (int i = 0; i < notes.length && i < other.notes.length; i++) {
                notes[i].copyFrom(other.notes[i]);
            }
            for (int i = 0; i < past.length && i < other.past.length; i++) {
                past[i].copyFrom(other.past[i]);
            }
            deputyCount = other.deputyCount;
            noteCount = other.noteCount;
            pastCount = other.pastCount;
        }

        /** null: there is none of that number. */
        Deputy deputyAt(int i) {
            return i >= 0 && i < deputyCount && i < deputies.length ? deputies[i] : null;
        }

        /** null: there is none of that number. */
        Note noteAt(int i) {
            return i >= 0 && i < noteCount && i < notes.length ? notes[i] : null;
        }

        void addDeputy(int kind, int love, int hate, int price) {
            if (deputyCount < 0 || deputyCount >= deputies.length) {
                return;
            }
            Deputy d = deputies[deputyCount];
            d.kind = kind;
            d.love = love;
            d.hate = hate;
            d.price = price;
            deputyCount++;
            pastCount = 0;
        }

        void addNote(int deputy, int bundle, int day, int stopped) {
            if (noteCount < 0 || noteCount >= notes.length) {
                return;
            }
            Note n = notes[noteCount];
            n.deputy = deputy;
            n.bundle = bundle;
            n.day = day;
            n.stopped = stopped;
            noteCount++;
        }

        /** The oldest row gives way where all are used. */
        void remember() {
            if (pastCount >= past.length) {
                for (int i = 1; i < past.length; i++) {
                    past[i - 1].copyFrom(past[i]);
                }
                pastCount = past.length - 1;
            }
            if (pastCount >= 0 && pastCount < past.length) {
                past[pastCount].copyFrom(sitting);
                pastCount++;
            }
        }

        void goBack() {
            if (pastCount > 0 && pastCount <= past.length) {
                pastCount--;
                sitting.copyFrom(past[pastCount]);
            }
        }

        /** How many items it took, or -10 less the fault: then this house is no house. */
        int readFrom(Text text) {
            startOn(0);
            text.rewind();
            int items = 0;
            // No item is shorter than a byte, so that the bytes bound the items.
            while (items <= MOST_BYTES && (items == 0 || !text.isAtEnd())) {
                if (!takeItem(text, items == 0)) {
                    return FAULT_BASE - text.start;
                }
                items++;
            }
            return items;
        }

        /** A token that can not stand there is never passed: it is the text's token at the fault. */
        private boolean takeItem(Text text, boolean first) {
            if (text.isWord("house") != first) {
                return false;
            }
            if (first) {
                return takeDay(text);
            }
            if (text.isWord("deputy")) {
                return takeDeputy(text);
            }
            if (text.isWord("love")) {
                return takeLeaning(text, true);
            }
            if (text.isWord("hate")) {
                return takeLeaning(text, false);
            }
            return text.isWord("law") && takeForce(text);
        }

        private boolean takeDay(Text text) {
            text.step();
            sitting.day = text.takeNumber(LAST_DAY);
            return sitting.day >= 0 && text.takeMark();
        }

        private boolean takeDeputy(Text text) {
            if (deputyCount >= MOST_DEPUTIES) {
                return false;
            }
            text.step();
            int kind = text.takeNumber(KINDS - 1);
            int price = kind < 0 ? NONE : text.takeNumber(HIGHEST_PRICE);
            if (price < 0 || !text.takeMark()) {
                return false;
            }
            addDeputy(kind, 0, 0, price);
            return true;
        }

        private boolean takeLeaning(Text text, boolean loved) {
            text.step();
            Deputy d = deputyAt(text.takeNumber(deputyCount - 1));
            if (d == null) {
                return false;
            }
            int laws = text.takeLaws();
            if (loved) {
                d.love = laws;
            } else {
                d.hate = laws;
            }
            return text.takeMark();
        }

        private boolean takeForce(Text text) {
            text.step();
            sitting.force = text.takeLaws();
            return text.takeMark();
        }
    }

    /** THE TEXT, and the token of it that a reading has come to. */
    private static final class Text {
        private static final int END = 0, WORD = 1, NUMBER = 2, MARK = 3, WRONG = 4;

        final byte[] bytes;
        int length;
        int start;
        int behind;
        int sort;
        int value;

        Text() {
            bytes = new byte[MOST_BYTES];
        }

        void append(int c) {
            if (length >= 0 && length < bytes.length) {
                bytes[length] = (byte) c;
                length++;
            }
        }

        void rewind() {
            behind = 0;
            step();
        }

        /** On to the next token; the end is one, too, whose place is the text's length. */
        void step() {
            start = endOfRun(behind, ' ', ' ');
            int wordEnd = endOfRun(start, 'a', 'z');
            int numberEnd = endOfRun(start, '0', '9');
            if (start >= length) {
                sort = END;
                behind = start;
            } else if (wordEnd > start) {
                sort = WORD;
                behind = wordEnd;
            } else if (numberEnd > start) {
                // A third figure makes all of the number wrong, so that the fault is where it begins.
                sort = numberEnd - start > 2 ? WRONG : NUMBER;
                behind = numberEnd;
                value = numberAt(start, numberEnd);
            } else {
                sort = byteAt(start) == ';' ? MARK : WRONG;
                behind = start + 1;
            }
        }

        boolean isAtEnd() {
            return sort == END;
        }

        boolean isWord(String word) {
            if (sort != WORD || behind - start != word.length()) {
                return false;
            }
            for (int i = 0; i < word.length(); i++) {
                if (byteAt(start + i) != word.charAt(i)) {
                    return false;
                }
            }
            return true;
        }

        /** The number that stands here, passed; NONE, and nothing is passed, if none up to last does. */
        int takeNumber(int last) {
            if (sort != NUMBER || value > last) {
                return NONE;
            }
            int taken = value;
            step();
            return taken;
        }

        /** As many laws as stand here: what comes behind the last of them must be a mark. */
        int takeLaws() {
            int laws = 0;
            for (int i = 0; i < MOST_BYTES && sort == NUMBER && value < LAWS; i++) {
                laws |= bitOf(value);
                step();
            }
            return laws;
        }

        boolean takeMark() {
            if (sort != MARK) {
                return false;
            }
            step();
            return true;
        }

        private int endOfRun(int first, int low, int high) {
            int i = Math.max(first, 0);
            while (i < length && i < bytes.length && bytes[i] >= low && bytes[i] <= high) {
                i++;
            }
            return i;
        }

        private int numberAt(int first, int end) {
            int number = 0;
            for (int i = Math.max(first, 0); i < end && i < bytes.length; i++) {
                number = 10 * number + bytes[i] - '0';
            }
            return number;
        }

        private int byteAt(int i) {
            return i >= 0 && i < length && i < bytes.length ? bytes[i] : NONE;
        }
    }
}
