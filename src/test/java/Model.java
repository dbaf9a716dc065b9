import java.math.BigInteger;
import java.util.ArrayDeque;
import java.util.ArrayList;
import java.util.Deque;
import java.util.HashSet;
import java.util.List;
import java.util.Set;
import java.util.TreeSet;
import java.util.function.IntPredicate;
import java.util.regex.Matcher;
import java.util.regex.Pattern;

/**
 * The document once more, written apart from the program and in another way
 * (sets, copies, every choice tried), for ModelTest to hold the program against.
 */
final class Model {
    record Deputy(int kind, Set<Integer> love, Set<Integer> hate, int price) { }

    record Note(int deputy, int bundle, int day, int stopped) { }

    record Sitting(int day, Set<Integer> passed, Set<Integer> force, Set<Integer> bought, Set<Integer> locked,
            int spent) { }

    record House(Sitting sitting, List<Deputy> deputies, List<Note> notes, List<Sitting> past) { }

    private House now = newHouse(0);
    private final House[] images = new House[2];
    private String text = "";
    private BigInteger above = BigInteger.ZERO;
    private BigInteger below = BigInteger.ONE;
    private final int[] status = new int[3];

    private static House newHouse(int day) {
        return new House(new Sitting(day, Set.of(), Set.of(), Set.of(), Set.of(), 0), List.of(), List.of(), List.of());
    }

    // ---- small things

    private static Set<Integer> set(int bits) {
        Set<Integer> all = new TreeSet<>();
        for (int i = 0; i < 8; i++) {
            if ((bits >> i) % 2 == 1) {
                all.add(i);
            }
        }
        return all;
    }

    private static int bits(Set<Integer> all) {
        return all.stream().mapToInt(i -> (int) Math.pow(2, i)).sum();
    }

    private static Set<Integer> both(Set<Integer> a, Set<Integer> b) {
        Set<Integer> all = new HashSet<>(a);
        all.retainAll(b);
        return all;
    }

    private static Set<Integer> with(Set<Integer> a, Set<Integer> b) {
        Set<Integer> all = new HashSet<>(a);
        all.addAll(b);
        return all;
    }

    private static Set<Integer> less(Set<Integer> a, Set<Integer> b) {
        Set<Integer> all = new HashSet<>(a);
        all.removeAll(b);
        return all;
    }

    private static <T> List<T> more(List<T> all, T one) {
        List<T> longer = new ArrayList<>(all);
        longer.add(one);
        return longer;
    }

    private static boolean out(int n, int low, int high) {
        return n < low || n > high;
    }

    private long refuse(int reason) {
        status[-2 - reason]++;
        return reason;
    }

    private boolean noDeputy(int i) {
        return out(i, 0, now.deputies.size() - 1);
    }

    // ---- the kinds, as a table

    private static int joy(int kind, int l, int h) {
        return 2 * l - 3 * h + (kind == 2 || kind == 4 ? 2 : 0);
    }

    private static boolean stops(int kind, int j, int h, int d) {
        return switch (kind) {
            case 0, 2, 3 -> j < 0;
            case 1 -> j < 0 || h > 0;
            case 4 -> j < 0 && d % 2 != 1;
            default -> j < 0 || h > 0 || d % 5 == 0;
        };
    }

    private static int cost(Deputy d) {
        return switch (d.kind) {
            case 3 -> d.price / 2 + d.price % 2;
            case 5 -> d.price + d.price;
            default -> d.price;
        };
    }

    private static int joyOf(Deputy d, Set<Integer> bundle) {
        return joy(d.kind, both(d.love, bundle).size(), both(d.hate, bundle).size());
    }

    private static boolean would(Deputy d, Set<Integer> bundle, int day) {
        return !bundle.isEmpty() && stops(d.kind, joyOf(d, bundle), both(d.hate, bundle).size(), day);
    }

    private Set<Integer> stoppers(Sitting s, Set<Integer> bundle) {
        Set<Integer> who = new HashSet<>();
        for (int i = 0; i < now.deputies.size(); i++) {
            if (!s.bought.contains(i) && !s.locked.contains(i) && would(now.deputies.get(i), bundle, s.day)) {
                who.add(i);
            }
        }
        return who;
    }

    // ---- sittings

    private static Sitting ended(Sitting s) {
        return new Sitting(s.day + 1, Set.of(), with(s.force, s.passed), Set.of(), Set.of(), s.spent);
    }

    private static Sitting undone(Sitting s) {
        return new Sitting(s.day, Set.of(), s.force, s.bought, s.locked, s.spent);
    }

    private static Sitting passing(Sitting s, Set<Integer> bundle) {
        return new Sitting(s.day, with(s.passed, bundle), s.force, s.bought, s.locked, s.spent);
    }

    private static Set<Integer> free(Sitting s) {
        return less(set(255), with(s.passed, s.force));
    }

    private void become(Sitting s) {
        Deque<Sitting> past = new ArrayDeque<>(now.past);
        past.addLast(now.sitting);
        if (past.size() > 8) {
            past.removeFirst();
        }
        now = new House(s, now.deputies, now.notes, List.copyOf(past));
    }

    // ---- the calls

    long call(String name, int[] a) {
        return switch (name) {
            case "house", "deputy", "type", "clear", "read" -> houseCall(name, a);
            case "moves", "end", "buy", "lock", "undo", "of", "joy", "acts" -> sittingCall(name, a);
            case "stops", "most", "money", "tied", "alone", "league", "courts", "gone" -> passCall(name, a);
            case "note", "forget", "is", "holds", "tryNext", "away", "diets" -> stoppedCall(name, a);
            default -> thereCall(name, a);
        };
    }

    private long houseCall(String name, int[] a) {
        switch (name) {
            case "house": {
                if (out(a[0], 0, 99)) {
                    return refuse(-2);
                }
                int were = now.deputies.size();
                now = newHouse(a[0]);
                return were;
            }
            case "deputy":
                if (out(a[0], 0, 5) || out(a[1], 0, 255) || out(a[2], 0, 255) || out(a[3], 0, 40)) {
                    return refuse(-2);
                }
                if (now.deputies.size() == 6) {
                    return refuse(-4);
                }
                now = new House(now.sitting, more(now.deputies, new Deputy(a[0], set(a[1]), set(a[2]), a[3])),
                        now.notes, List.of());
                return now.deputies.size() - 1;
            case "type":
                if (out(a[0], 0, 127)) {
                    return refuse(-2);
                }
                if (text.length() == 150) {
                    return refuse(-4);
                }
                text += (char) a[0];
                return text.length();
            case "clear": {
                int had = text.length();
                text = "";
                return had;
            }
            default:
                return read();
        }
    }

    private record Token(int place, String what) {
        boolean isNumber(int last) {
            return what.matches("[0-9]{1,2}") && Integer.parseInt(what) <= last;
        }
    }

    private List<Token> tokens() {
        List<Token> all = new ArrayList<>();
        Matcher m = Pattern.compile("[a-z]+|[0-9]+|[^ ]", Pattern.DOTALL).matcher(text);
        while (m.find()) {
            all.add(new Token(m.start(), m.group()));
        }
        all.add(new Token(text.length(), "END"));
        return all;
    }

    /** By states: what may come next is a word, or so many numbers told, or laws and the mark. */
    private long read() {
        House built = null;
        String item = null;
        List<Integer> numbers = new ArrayList<>();
        int items = 0;
        for (Token t : tokens()) {
            if (item == null) {
                if (t.what.equals("END") && built != null) {
                    now = built;
                    return items;
                }
                boolean may = built == null ? t.what.equals("house")
                        : List.of("deputy", "love", "hate", "law").contains(t.what)
                        && !(t.what.equals("deputy") && built.deputies.size() == 6);
                if (!may) {
                    return -10 - t.place;
                }
                item = t.what;
                numbers.clear();
            } else if (t.what.equals(";") && numbers.size() >= told(item)) {
                built = put(built, item, numbers);
                item = null;
                items++;
            } else if (t.isNumber(lastOf(item, numbers.size(), built))) {
                numbers.add(Integer.parseInt(t.what));
            } else {
                return -10 - t.place;
            }
        }
        throw new IllegalStateException("the end was passed");
    }

    private static int told(String item) {
        return switch (item) {
            case "deputy" -> 2;
            case "law" -> 0;
            default -> 1;
        };
    }

    private static int lastOf(String item, int at, House built) {
        return switch (item) {
            case "house" -> at == 0 ? 99 : -1;
            case "deputy" -> at == 0 ? 5 : at == 1 ? 40 : -1;
            case "law" -> 7;
            default -> at == 0 ? built.deputies.size() - 1 : 7;
        };
    }

    private static House put(House h, String item, List<Integer> n) {
        if (item.equals("house")) {
            return newHouse(n.get(0));
        }
        if (item.equals("deputy")) {
            return new House(h.sitting, more(h.deputies, new Deputy(n.get(0), Set.of(), Set.of(), n.get(1))),
                    List.of(), List.of());
        }
        if (item.equals("law")) {
            Sitting s = new Sitting(h.sitting.day, Set.of(), new HashSet<>(n), Set.of(), Set.of(), 0);
            return new House(s, h.deputies, List.of(), List.of());
        }
        List<Deputy> all = new ArrayList<>(h.deputies);
        Deputy d = all.get(n.get(0));
        Set<Integer> laws = new HashSet<>(n.subList(1, n.size()));
        all.set(n.get(0), item.equals("love") ? new Deputy(d.kind, laws, d.hate, d.price)
                : new Deputy(d.kind, d.love, laws, d.price));
        return new House(h.sitting, all, List.of(), List.of());
    }

    private long sittingCall(String name, int[] a) {
        Sitting s = now.sitting;
        switch (name) {
            case "moves": {
                if (out(a[0], 1, 255)) {
                    return refuse(-2);
                }
                if (!free(s).containsAll(set(a[0]))) {
                    return refuse(-3);
                }
                Set<Integer> who = stoppers(s, set(a[0]));
                become(who.isEmpty() ? passing(s, set(a[0])) : ended(undone(s)));
                return bits(who);
            }
            case "end":
                become(ended(s));
                return bits(now.sitting.force);
            case "buy": {
                if (noDeputy(a[0])) {
                    return refuse(-2);
                }
                if (s.bought.contains(a[0])) {
                    return refuse(-3);
                }
                int price = cost(now.deputies.get(a[0]));
                become(new Sitting(s.day, s.passed, s.force, with(s.bought, Set.of(a[0])), s.locked, s.spent + price));
                return price;
            }
            case "lock":
                if (noDeputy(a[0])) {
                    return refuse(-2);
                }
                if (!s.locked.isEmpty()) {
                    return refuse(-3);
                }
                become(new Sitting(s.day, s.passed, s.force, s.bought, Set.of(a[0]), s.spent));
                return 1;
            case "undo": {
                int many = now.past.size();
                if (many == 0) {
                    return refuse(-3);
                }
                now = new House(now.past.get(many - 1), now.deputies, now.notes, now.past.subList(0, many - 1));
                return now.sitting.day;
            }
            case "of": {
                if (noDeputy(a[0]) || out(a[1], 0, 6)) {
                    return refuse(-2);
                }
                Deputy d = now.deputies.get(a[0]);
                return new int[] {d.kind, bits(d.love), bits(d.hate), d.price, cost(d),
                    s.bought.contains(a[0]) ? 1 : 0, s.locked.contains(a[0]) ? 1 : 0}[a[1]];
            }
            case "joy":
                if (noDeputy(a[0]) || out(a[1], 0, 255)) {
                    refuse(-2);
                    return -1000;
                }
                return joyOf(now.deputies.get(a[0]), set(a[1]));
            default:
                return out(a[0], 0, 1) ? refuse(-2) : bits(a[0] == 0 ? s.passed : s.force);
        }
    }

    /** Of all bundles of free laws that may be: most laws, then least bits. */
    private int best(IntPredicate may) {
        int best = 0;
        for (int b = 255; b >= 0; b--) {
            boolean better = Integer.bitCount(b) >= Integer.bitCount(best);
            if (better && free(now.sitting).containsAll(set(b)) && may.test(b)) {
                best = b;
            }
        }
        return best;
    }

    private int costs(Set<Integer> who) {
        return who.stream().mapToInt(i -> cost(now.deputies.get(i))).sum();
    }

    private long passCall(String name, int[] a) {
        Sitting s = now.sitting;
        int n = now.deputies.size();
        switch (name) {
            case "stops":
                return out(a[0], 0, 255) ? refuse(-2) : bits(stoppers(s, set(a[0])));
            case "most":
                return best(b -> stoppers(s, set(b)).isEmpty());
            case "money": {
                if (out(a[0], 0, 200) || out(a[1], 0, 2)) {
                    return refuse(-2);
                }
                int b = best(c -> costs(stoppers(s, set(c))) <= a[0]);
                Set<Integer> who = stoppers(s, set(b));
                return a[1] == 0 ? b : a[1] == 1 ? costs(who) : bits(who);
            }
            case "tied": {
                if (out(a[0], 0, 255) || set(a[0]).size() < 2) {
                    return refuse(-2);
                }
                int least = -1;
                for (int p = 255; p > 0; p--) {
                    Set<Integer> rest = less(set(a[0]), set(p));
                    if (set(a[0]).containsAll(set(p)) && !rest.isEmpty()
                            && set(p).contains(((TreeSet<Integer>) set(a[0])).first())
                            && stoppers(s, set(p)).isEmpty() && stoppers(s, rest).isEmpty()) {
                        least = p;
                    }
                }
                return least;
            }
            case "alone":
                return bits(lawsThat(law -> stoppers(s, Set.of(law)).isEmpty()));
            case "league":
                return bits(lawsThat(law -> now.deputies.stream().filter(d -> joyOf(d, Set.of(law)) > 0).count() * 2 > n));
            case "courts":
                return out(a[0], 0, 255) ? refuse(-2) : courts(set(a[0]), n);
            default:
                return out(a[0], 0, 1) ? refuse(-2) : gone(a[0], n);
        }
    }

    private static Set<Integer> lawsThat(IntPredicate may) {
        Set<Integer> laws = new HashSet<>();
        for (int law = 0; law < 8; law++) {
            if (may.test(law)) {
                laws.add(law);
            }
        }
        return laws;
    }

    /** The whole table of both courts' choices; none is n. */
    private long courts(Set<Integer> bundle, int n) {
        boolean[][] stopped = new boolean[n + 1][n + 1];
        for (int one = 0; one <= n; one++) {
            for (int other = 0; other <= n; other++) {
                Set<Integer> who = new HashSet<>(stoppers(now.sitting, bundle));
                who.remove(one);
                if (other < n && other != one && !now.sitting.locked.contains(other) && !bundle.isEmpty()) {
                    who.add(other);
                }
                stopped[one][other] = !who.isEmpty();
            }
        }
        long resting = 0;
        for (int one = 0; one <= n; one++) {
            for (int other = 0; other <= n; other++) {
                boolean rests = true;
                for (int k = 0; k <= n; k++) {
                    rests &= stopped[one][other] ? stopped[k][other] : !stopped[one][k];
                }
                resting += rests ? 1 : 0;
            }
        }
        return resting;
    }

    private long gone(int what, int n) {
        Sitting s = now.sitting;
        int which = -1;
        int laws = -1;
        for (int i = n - 1; i >= 0; i--) {
            Sitting without = new Sitting(s.day, s.passed, s.force, s.bought, with(s.locked, Set.of(i)), s.spent);
            int had = Integer.bitCount(best(b -> stoppers(without, set(b)).isEmpty()));
            if (had >= laws) {
                which = i;
                laws = had;
            }
        }
        return what == 0 ? which : laws;
    }

    private boolean fits(int i, Deputy d) {
        return now.notes.stream().filter(n -> n.deputy == i)
                .allMatch(n -> would(d, set(n.bundle), n.day) == (n.stopped != 0));
    }

    private List<Deputy> mayBe(int i) {
        Deputy d = now.deputies.get(i);
        List<Deputy> all = new ArrayList<>();
        for (int kind = 0; kind < 6; kind++) {
            Deputy other = new Deputy(kind, d.love, d.hate, d.price);
            if (fits(i, other)) {
                all.add(other);
            }
        }
        return all;
    }

    private long stoppedCall(String name, int[] a) {
        switch (name) {
            case "note":
                if (noDeputy(a[0]) || out(a[1], 0, 255) || out(a[2], 0, 99) || out(a[3], 0, 1)) {
                    return refuse(-2);
                }
                if (now.notes.size() == 6) {
                    return refuse(-4);
                }
                now = new House(now.sitting, now.deputies, more(now.notes, new Note(a[0], a[1], a[2], a[3])), now.past);
                return now.notes.size();
            case "forget": {
                int were = now.notes.size();
                now = new House(now.sitting, now.deputies, List.of(), now.past);
                return were;
            }
            case "is":
                return noDeputy(a[0]) ? refuse(-2) : mayBe(a[0]).stream().mapToInt(d -> 1 << d.kind).sum();
            case "holds": {
                if (noDeputy(a[0]) || out(a[1], 0, 7)) {
                    return refuse(-2);
                }
                Deputy d = now.deputies.get(a[0]);
                Set<Integer> law = Set.of(a[1]);
                Deputy lover = new Deputy(d.kind, with(d.love, law), less(d.hate, law), d.price);
                Deputy hater = new Deputy(d.kind, less(d.love, law), with(d.hate, law), d.price);
                Deputy neither = new Deputy(d.kind, less(d.love, law), less(d.hate, law), d.price);
                return (fits(a[0], lover) ? 1 : 0) + (fits(a[0], hater) ? 2 : 0) + (fits(a[0], neither) ? 4 : 0);
            }
            case "tryNext":
                return noDeputy(a[0]) ? refuse(-2) : tryNext(mayBe(a[0]));
            case "away":
                return away(a);
            default:
                return diets(a);
        }
    }

    private long tryNext(List<Deputy> may) {
        if (may.isEmpty()) {
            return -1;
        }
        int best = -1;
        long least = 99;
        for (int b = 255; b >= 1; b--) {
            Set<Integer> bundle = set(b);
            long yes = may.stream().filter(d -> would(d, bundle, now.sitting.day)).count();
            long greater = Math.max(yes, may.size() - yes);
            if (greater <= least) {
                least = greater;
                best = b;
            }
        }
        return best;
    }

    private long away(int[] a) {
        if (out(a[0], 0, 255) || out(a[1], 0, 10)) {
            return refuse(-2);
        }
        int who = stoppers(now.sitting, set(a[0])).size();
        BigInteger up = BigInteger.valueOf(a[1]).pow(who);
        BigInteger down = BigInteger.TEN.pow(who);
        above = up.divide(up.gcd(down));
        below = down.divide(up.gcd(down));
        return 1;
    }

    private long diets(int[] a) {
        if (out(a[0], 0, 999999) || out(a[1], 0, 30)) {
            return refuse(-2);
        }
        BigInteger x = BigInteger.valueOf(a[0]);
        Sitting s = now.sitting;
        for (int i = 0; i < a[1]; i++) {
            x = x.multiply(BigInteger.valueOf(1103515245)).add(BigInteger.valueOf(12345)).mod(BigInteger.TWO.pow(31));
            Set<Integer> laws = both(free(s), set(x.shiftRight(16).and(BigInteger.valueOf(255)).intValue()));
            boolean stopped = !laws.isEmpty() && !stoppers(s, laws).isEmpty();
            s = stopped ? ended(undone(s)) : ended(passing(s, laws));
        }
        return s.force.size();
    }

    private long thereCall(String name, int[] a) {
        switch (name) {
            case "part":
                return out(a[0], 0, 1) ? refuse(-2) : (a[0] == 0 ? above : below).longValueExact();
            case "image":
                if (out(a[0], 0, 1)) {
                    return refuse(-2);
                }
                images[a[0]] = now;
                return 1;
            case "from":
                if (out(a[0], 0, 1)) {
                    return refuse(-2);
                }
                if (images[a[0]] == null) {
                    return refuse(-3);
                }
                now = images[a[0]];
                return 1;
            case "status":
                if (out(a[0], 0, 2)) {
                    refuse(-2);
                    return -1;
                }
                return status[a[0]];
            case "count":
                return out(a[0], 0, 7) ? refuse(-2) : counts().get(a[0]);
            default:
                return digest();
        }
    }

    private List<Integer> counts() {
        Sitting s = now.sitting;
        return List.of(now.deputies.size(), s.day, s.force.size(), s.passed.size(), s.spent, now.notes.size(),
                now.past.size(), text.length());
    }

    private long digest() {
        List<Long> all = new ArrayList<>();
        counts().forEach(n -> all.add((long) n));
        all.add((long) bits(now.sitting.passed));
        all.add((long) bits(now.sitting.force));
        for (int i = 0; i < now.deputies.size(); i++) {
            Deputy d = now.deputies.get(i);
            for (int v : new int[] {d.kind, bits(d.love), bits(d.hate), d.price,
                now.sitting.bought.contains(i) ? 1 : 0, now.sitting.locked.contains(i) ? 1 : 0}) {
                all.add((long) v);
            }
        }
        for (Note n : now.notes) {
            for (int v : new int[] {n.deputy, n.bundle, n.day, n.stopped}) {
                all.add((long) v);
            }
        }
        all.add(above.longValueExact());
        all.add(below.longValueExact());
        return all.stream().reduce(1187L, (h, v) -> 31 * h + v);
    }
}
