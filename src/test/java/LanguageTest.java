import java.io.IOException;
import java.lang.reflect.Field;
import java.lang.reflect.Method;
import java.lang.reflect.Modifier;
import java.nio.file.Files;
import java.nio.file.Path;
import java.util.Arrays;
import java.util.List;
import java.util.Set;
import java.util.TreeSet;
import java.util.regex.Matcher;
import java.util.regex.Pattern;

/** The document's face, and those rules of LANGUAGE.md that can be seen by a look at the class and its text. */
public final class LanguageTest {
    private static final Due due = new Due("LanguageTest");

    private static final String FACE = """
        public int VetoHouse.house(int)
        public int VetoHouse.deputy(int,int,int,int)
        public int VetoHouse.type(int)
        public int VetoHouse.clear()
        public int VetoHouse.read()
        public int VetoHouse.moves(int)
        public int VetoHouse.end()
        public int VetoHouse.buy(int)
        public int VetoHouse.lock(int)
        public int VetoHouse.undo()
        public int VetoHouse.of(int,int)
        public int VetoHouse.joy(int,int)
        public int VetoHouse.acts(int)
        public int VetoHouse.stops(int)
        public int VetoHouse.most()
        public int VetoHouse.money(int,int)
        public int VetoHouse.tied(int)
        public int VetoHouse.alone()
        public int VetoHouse.league()
        public int VetoHouse.courts(int)
        public int VetoHouse.gone(int)
        public int VetoHouse.note(int,int,int,int)
        public int VetoHouse.forget()
        public int VetoHouse.is(int)
        public int VetoHouse.holds(int,int)
        public int VetoHouse.tryNext(int)
        public int VetoHouse.away(int,int)
        public int VetoHouse.diets(int,int)
        public long VetoHouse.part(int)
        public int VetoHouse.image(int)
        public int VetoHouse.from(int)
        public int VetoHouse.status(int)
        public int VetoHouse.count(int)
        public long VetoHouse.digest()
        """;

    public static void main(String[] args) throws IOException {
        face();
        nestedClasses();
        String source = Files.readString(Path.of("src/main/java/VetoHouse.java"));
        String code = source.replaceAll("(?s)/\\*.*?\\*/", "").replaceAll("//[^\n]*", "");
        words(code);
        methodLengths(source);
        due.finish();
    }

    private static void face() {
        Class<?> c = VetoHouse.class;
        due.holds("1 public and final", Modifier.isPublic(c.getModifiers()) && Modifier.isFinal(c.getModifiers()));
        due.is("1 one constructor", c.getDeclaredConstructors().length, 1);
        due.is("1 public ones", c.getConstructors().length, 1);
        Set<String> got = new TreeSet<>();
        Set<String> names = new TreeSet<>();
        for (Method m : c.getDeclaredMethods()) {
            if (!Modifier.isPrivate(m.getModifiers())) {
                got.add(m.toString());
                due.holds("1 the name " + m.getName() + " but once", names.add(m.getName()));
            }
        }
        Set<String> want = new TreeSet<>(Arrays.asList(FACE.strip().split("\n")));
        due.holds("1 the face " + got, got.equals(want));
        for (Method m : c.getDeclaredMethods()) {
            boolean hidden = Modifier.isPrivate(m.getModifiers());
            due.holds("1 private " + m.getName() + " has a name of its own", !hidden || !names.contains(m.getName()));
        }
        List<String> constants = List.of("NONE", "BAD", "NO", "FULL");
        for (Field f : c.getDeclaredFields()) {
            boolean isFace = constants.contains(f.getName());
            due.holds("1 the field " + f, Modifier.isPrivate(f.getModifiers()) != isFace);
            due.holds("5 the field " + f, !Modifier.isStatic(f.getModifiers()) || Modifier.isFinal(f.getModifiers()));
        }
        due.is("NONE", VetoHouse.NONE, -1);
        due.is("BAD", VetoHouse.BAD, -2);
        due.is("NO", VetoHouse.NO, -3);
        due.is("FULL", VetoHouse.FULL, -4);
    }

    private static void nestedClasses() {
        Class<?>[] nested = VetoHouse.class.getDeclaredClasses();
        due.holds("11 twelve classes at most", nested.length + 1 <= 12);
        for (Class<?> c : nested) {
            due.holds("2 static: " + c, Modifier.isStatic(c.getModifiers()));
            due.holds("1 not public: " + c, !Modifier.isPublic(c.getModifiers()));
            due.holds("1 not protected: " + c, !Modifier.isProtected(c.getModifiers()));
            fields(c);
        }
        fields(VetoHouse.class);
    }

    private static void fields(Class<?> c) {
        long own = Arrays.stream(c.getDeclaredFields()).filter(f -> !Modifier.isStatic(f.getModifiers())).count();
        due.holds("11 twenty fields at most: " + c, own <= 20);
        for (Method m : c.getDeclaredMethods()) {
            due.holds("11 seven parameters at most: " + m, m.getParameterCount() <= 7);
        }
    }

    private static void words(String code) {
        String[] none = {"throw", "throws", "try", "catch", "finally", "synchronized", "assert", "import", "package",
            "native", "volatile", "transient", "var", "System\\.(?!arraycopy)", "Object", "hashCode", "toString",
            "Exact", "->", "::", "@", "Random", "Thread", "double", "float"};
        for (String word : none) {
            String alone = Character.isLetter(word.charAt(0)) ? "\\b" + word : word;
            String whole = Character.isLetter(word.charAt(word.length() - 1)) ? alone + "\\b" : alone;
            due.holds("4, 6, 13 no " + word, !Pattern.compile(whole).matcher(code).find());
        }
        due.holds("3 signs up to 126", code.chars().allMatch(c -> c == '\n' || c >= 32 && c < 127));
    }

    private static void methodLengths(String source) {
        String[] lines = source.split("\n");
        Pattern head = Pattern.compile("^( {4}| {8})(public |private |static |final )*[A-Za-z\\[\\]]+( \\w+)?\\(.*\\{$");
        for (int i = 0; i < lines.length; i++) {
            Matcher m = head.matcher(lines[i]);
            if (m.matches() && !lines[i].contains("class ") && !lines[i].strip().startsWith("if ")) {
                int end = i;
                while (end < lines.length && !lines[end].equals(m.group(1) + "}")) {
                    end++;
                }
                due.holds("11 some sixty lines at most: " + lines[i].strip(), end - i <= 60);
            }
        }
    }
}
