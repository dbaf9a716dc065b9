import java.util.ArrayList;
import java.util.Arrays;
import java.util.LinkedHashMap;
import java.util.List;
import java.util.Map;
import java.util.Random;

/** All promises: long runs of chosen calls, right and wrong ones, answered by the program and by Model alike. */
public final class ModelTest {
    private static final int RUNS = 400;
    private static final int CALLS = 512;
    private static final int LAST = 2 + 3 * 19;
    private static final Due due = new Due("ModelTest");

    /** Each call with what its arguments may be at most (from 0); in the order of the face. */
    private static final Map<String, int[]> FACE = new LinkedHashMap<>();

    static {
        FACE.put("house", new int[] {99});
        FACE.put("deputy", new int[] {5, 255, 255, 40});
        FACE.put("type", new int[] {127});
        FACE.put("clear", new int[] {});
        FACE.put("read", new int[] {});
        FACE.put("moves", new int[] {255});
        FACE.put("end", new int[] {});
        FACE.put("buy", new int[] {5});
        FACE.put("lock", new int[] {5});
        FACE.put("undo", new int[] {});
        FACE.put("of", new int[] {5, 6});
        FACE.put("joy", new int[] {5, 255});
        FACE.put("acts", new int[] {1});
        FACE.put("stops", new int[] {255});
        FACE.put("most", new int[] {});
        FACE.put("money", new int[] {200, 2});
        FACE.put("tied", new int[] {255});
        FACE.put("alone", new int[] {});
        FACE.put("league", new int[] {});
        FACE.put("courts", new int[] {255});
        FACE.put("gone", new int[] {1});
        FACE.put("note", new int[] {5, 255, 99, 1});
        FACE.put("forget", new int[] {});
        FACE.put("is", new int[] {5});
        FACE.put("holds", new int[] {5, 7});
        FACE.put("tryNext", new int[] {5});
        FACE.put("away", new int[] {255, 10});
        FACE.put("diets", new int[] {999999, 30});
        FACE.put("part", new int[] {1});
        FACE.put("image", new int[] {1});
        FACE.put("from", new int[] {1});
        FACE.put("status", new int[] {2});
        FACE.put("count", new int[] {7});
        FACE.put("digest", new int[] {});
    }

    private static final String[] NAMES = FACE.keySet().toArray(new String[0]);

    public static void main(String[] args) {
        for (int run = 0; run < RUNS; run++) {
            oneRun(run);
        }
        due.finish();
    }

    private static void oneRun(int run) {
        Random random = new Random(run);
        VetoHouse x = new VetoHouse();
        Model model = new Model();
        String[] names = run % 2 == 0 ? NAMES : half(random);
        int calls = 0;
        while (calls < CALLS - LAST) {
            String name = names[random.nextInt(names.length)];
            String text = name.equals("read") && random.nextBoolean() ? someText(random) : "";
            if (!text.isEmpty() && calls + text.length() + 2 < CALLS - LAST) {
                same(run, "clear", new int[] {}, x, model);
                for (int i = 0; i < text.length(); i++) {
                    same(run, "type", new int[] {text.charAt(i)}, x, model);
                }
                same(run, "read", new int[] {}, x, model);
                calls += text.length() + 2;
            } else if (!isRare(name) || random.nextInt(5) == 0) {
                same(run, name, some(random, FACE.get(name)), x, model);
                calls++;
            }
        }
        backwards(run, x, model);
        for (int image = 0; image < 2; image++) {
            same(run, "from", new int[] {image}, x, model);
            backwards(run, x, model);
        }
    }

    /** What may be undone is seen by undoing alone. */
    private static void backwards(int run, VetoHouse x, Model model) {
        same(run, "digest", new int[] {}, x, model);
        for (int i = 0; i < 9; i++) {
            same(run, "undo", new int[] {}, x, model);
            same(run, "digest", new int[] {}, x, model);
        }
    }

    /** Some calls alone: without those that begin anew a run comes to states that it else would not. */
    private static String[] half(Random random) {
        List<String> some = new ArrayList<>(List.of("deputy", "moves", "digest"));
        for (String name : NAMES) {
            if (random.nextBoolean()) {
                some.add(name);
            }
        }
        return some.toArray(new String[0]);
    }

    /** Houses and notes are kept for some time, else no run comes to full ones. */
    private static boolean isRare(String name) {
        return name.equals("house") || name.equals("forget") || name.equals("from");
    }

    private static void same(int run, String name, int[] a, VetoHouse x, Model model) {
        due.is("run " + run + ": " + name + Arrays.toString(a), call(x, name, a), model.call(name, a));
    }

    private static int[] some(Random random, int[] last) {
        int[] a = new int[last.length];
        for (int i = 0; i < a.length; i++) {
            a[i] = random.nextInt(last[i] + 1);
        }
        if (a.length > 0 && random.nextInt(20) == 0) {
            int[] wild = {-1, last[0] + 1, Integer.MIN_VALUE, Integer.MAX_VALUE, 256, -256, last[0], 0};
            int at = random.nextInt(a.length);
            a[at] = at == 0 ? wild[random.nextInt(wild.length)] : random.nextBoolean() ? -1 : last[at] + 1;
        }
        return a;
    }

    /** Mostly a house as the document tells it; some with a byte, a token or an item spoilt. */
    private static String someText(Random random) {
        StringBuilder text = new StringBuilder("house " + random.nextInt(100) + ";");
        int deputies = 0;
        while (text.length() < 130 && random.nextInt(12) > 0) {
            String laws = "";
            for (int k = random.nextInt(4); k > 0; k--) {
                laws += " " + random.nextInt(8);
            }
            int what = random.nextInt(deputies == 0 ? 2 : 4);
            if (what == 0) {
                text.append("deputy " + random.nextInt(6) + " " + random.nextInt(41) + ";");
                deputies++;
            } else if (what == 1) {
                text.append("law" + laws + " ;");
            } else {
                text.append((what == 2 ? "love " : "hate ") + random.nextInt(deputies) + laws + ";");
            }
        }
        String[] spoilers = {"", ";", " ", "a", "9", "house", "deputy", "-", "41", "8", "\0", "law"};
        if (random.nextInt(3) == 0) {
            int at = random.nextInt(text.length() + 1);
            text.insert(at, spoilers[random.nextInt(spoilers.length)]);
        }
        if (random.nextInt(5) == 0) {
            text.setLength(random.nextInt(text.length() + 1));
        }
        return text.toString();
    }

    private static long call(VetoHouse x, String name, int[] a) {
        switch (name) {
            case "house": return x.house(a[0]);
            case "deputy": return x.deputy(a[0], a[1], a[2], a[3]);
            case "type": return x.type(a[0]);
            case "clear": return x.clear();
            case "read": return x.read();
            case "moves": return x.moves(a[0]);
            case "end": return x.end();
            case "buy": return x.buy(a[0]);
            case "lock": return x.lock(a[0]);
            case "undo": return x.undo();
            case "of": return x.of(a[0], a[1]);
            case "joy": return x.joy(a[0], a[1]);
            case "acts": return x.acts(a[0]);
            case "stops": return x.stops(a[0]);
            case "most": return x.most();
            case "money": return x.money(a[0], a[1]);
            case "tied": return x.tied(a[0]);
            case "alone": return x.alone();
            case "league": return x.league();
            case "courts": return x.courts(a[0]);
            case "gone": return x.gone(a[0]);
            case "note": return x.note(a[0], a[1], a[2], a[3]);
            case "forget": return x.forget();
            case "is": return x.is(a[0]);
            case "holds": return x.holds(a[0], a[1]);
            case "tryNext": return x.tryNext(a[0]);
            case "away": return x.away(a[0], a[1]);
            case "diets": return x.diets(a[0], a[1]);
            case "part": return x.part(a[0]);
            case "image": return x.image(a[0]);
            case "from": return x.from(a[0]);
            case "status": return x.status(a[0]);
            case "count": return x.count(a[0]);
            case "digest": return x.digest();
            default: throw new IllegalArgumentException(name);
        }
    }
}
