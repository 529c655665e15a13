import java.io.IOException;
import java.lang.reflect.Constructor;
import java.lang.reflect.Field;
import java.lang.reflect.Member;
import java.lang.reflect.Method;
import java.lang.reflect.Modifier;
import java.nio.charset.StandardCharsets;
import java.nio.file.Files;
import java.nio.file.Path;
import java.util.ArrayList;
import java.util.Arrays;
import java.util.HashSet;
import java.util.List;
import java.util.Map;
import java.util.Set;
import java.util.TreeMap;
import java.util.TreeSet;
import java.util.regex.Matcher;
import java.util.regex.Pattern;

/** The public face as the document has it, and those rules of LANGUAGE.md that can be seen from outside. */
public final class FaceTest {
    private static final Check CHECK = new Check();

    private static final String FACE = "int letter(int) int slope() int depth(int) int person(int,int) int place()"
            + " int digs(int,int) int believes(int,int) int sits(int,int) int turn(int,int,int) int years(int)"
            + " int behind(int,int,int) int then(int,int) int depthThen(int,int) int first(int) int makes(int)"
            + " int leaves(int) int ask(int) int sit(int,int,int) int doubt(int) int stranger(int) int nearest()"
            + " int passed(int) int heard(int) int groups(int) int middle(int) long wind(int,int,int) long mean(int)"
            + " int two(int,int,int) int whatIs(int,int) int who() int row(int) int judge() int clear()"
            + " int lots(int,int,int) int image() int on() int count(int)";

    private static String told(Method m) {
        List<String> given = new ArrayList<>();
        for (Class<?> c : m.getParameterTypes()) {
            given.add(c.getName());
        }
        return m.getReturnType().getName() + " " + m.getName() + "(" + String.join(",", given) + ")";
    }

    private static boolean isPrivate(Member m) {
        return Modifier.isPrivate(m.getModifiers());
    }

    private static void face() {
        Class<?> face = PicnicOfSomebody.class;
        Set<String> due = new TreeSet<>(Arrays.asList(FACE.split(" (?=int |long )")));
        Set<String> is = new TreeSet<>();
        Set<String> names = new HashSet<>();
        for (Method m : face.getDeclaredMethods()) {
            if (!isPrivate(m)) {
                is.add(told(m));
                names.add(m.getName());
                CHECK.holds(m + " is public", Modifier.isPublic(m.getModifiers()) && !Modifier.isStatic(m.getModifiers()));
            }
        }
        CHECK.holds("the methods " + is + " are " + due, is.equals(due));
        CHECK.holds("the class is public and final", face.getModifiers() == (Modifier.PUBLIC | Modifier.FINAL));
        Constructor<?>[] made = face.getDeclaredConstructors();
        CHECK.holds("one public constructor of nothing", made.length == 1 && made[0].getParameterCount() == 0
                && Modifier.isPublic(made[0].getModifiers()));
        insides(face, names);
        for (Class<?> inside : face.getDeclaredClasses()) {
            CHECK.holds(inside + " is static, and not public or protected", Modifier.isStatic(inside.getModifiers())
                    && (inside.getModifiers() & (Modifier.PUBLIC | Modifier.PROTECTED)) == 0);
            insides(inside, names);
        }
        CHECK.holds("twelve classes at most", face.getDeclaredClasses().length < 12);
    }

    private static void insides(Class<?> type, Set<String> publicNames) {
        int fields = 0;
        for (Field f : type.getDeclaredFields()) {
            boolean constant = Modifier.isStatic(f.getModifiers());
            fields += constant ? 0 : 1;
            CHECK.holds(f + " is final if static", !constant || Modifier.isFinal(f.getModifiers()));
            CHECK.holds(f + " is private in the face", type != PicnicOfSomebody.class || isPrivate(f));
        }
        CHECK.holds(type + " has twenty fields at most", fields <= 20);
        for (Method m : type.getDeclaredMethods()) {
            CHECK.holds(m + " has no public one's name", Modifier.isPublic(m.getModifiers())
                    || !publicNames.contains(m.getName()));
            CHECK.holds(m + " takes seven at most", m.getParameterCount() <= 7);
        }
    }

    private static final String[] RULED_OUT = {"throw", "try", "catch", "synchronized", "assert", "double", "float",
        "import", "package", "Exact\\(", "->", "::", "hashCode", "toString", "equals", "Integer\\.[A-Z]", "Long\\.",
        "static \\{", "System\\.(?!arraycopy)", "instanceof", "char\\[\\]", "\\$"};

    private static void source() throws IOException {
        Path file = Path.of("src/main/java/PicnicOfSomebody.java");
        String code = Files.readString(file, StandardCharsets.US_ASCII).replaceAll("(?m)//.*$|/\\*\\*.*\\*/", "");
        for (String word : RULED_OUT) {
            Pattern p = Pattern.compile(Character.isLetter(word.charAt(0)) ? "\\b" + word : word);
            Matcher m = p.matcher(code);
            CHECK.holds("the program has no " + word, !m.find());
        }
        // Objects are made where an object is, so that no call makes one and the room stays as it was.
        for (String line : code.split("\n")) {
            CHECK.holds("made in a field: " + line, !line.contains("new ")
                    || line.matches(" +(private )?final [\\w\\[\\]]+ \\w+ = new .*;"));
        }
        methodsAreShort(code.split("\n"));
        callsAreNotDeep(code.split("\n"));
    }

    private static void methodsAreShort(String[] lines) {
        int begin = 0;
        for (int i = 0; i < lines.length; i++) {
            if (lines[i].matches(" +[\\w\\[\\] ]+\\(.*\\) \\{") && !lines[i].matches(" +(if|for|while|switch|} else).*")) {
                begin = i;
            }
            CHECK.holds("a method of sixty lines at most about line " + i, i - begin <= 60
                    || !lines[i].startsWith("            "));
        }
    }

    private static final int MOST_DEEP = 8;
    private static final Pattern DECLARED = Pattern.compile("( +)(?!.*\\b(?:new|return|else)\\b)[\\w\\[\\] ]* ?\\b(\\w+)\\(.*\\) \\{");
    private static final Pattern CALLED = Pattern.compile("\\b(?:(Math|Integer|System)\\.)?(\\w+)\\(");
    private static final Set<String> NO_CALLS = Set.of("if", "for", "while", "switch");

    /** Rules 8 and 11: no method comes back to itself, and a way of calls has eight at most, the library's too. */
    private static void callsAreNotDeep(String[] lines) {
        Map<String, Set<String>> calls = callsByName(lines);
        CHECK.holds("the public methods are found", calls.containsKey("letter") && calls.containsKey("count"));
        for (String name : calls.keySet()) {
            int deep = deepest(name, calls, MOST_DEEP + 1);
            CHECK.holds(name + " goes eight deep at most", deep <= MOST_DEEP);
        }
    }

    /** Methods of one name are taken as one: that makes a way longer, never shorter. */
    private static Map<String, Set<String>> callsByName(String[] lines) {
        Map<String, Set<String>> calls = new TreeMap<>();
        Set<String> current = new HashSet<>();
        for (String line : lines) {
            Matcher declared = DECLARED.matcher(line);
            boolean begins = declared.matches() && !NO_CALLS.contains(declared.group(2));
            if (begins) {
                current = calls.computeIfAbsent(declared.group(2), name -> new HashSet<>());
                continue;
            }
            Matcher called = CALLED.matcher(line);
            while (called.find()) {
                String library = called.group(1) == null ? "" : called.group(1) + ".";
                if (!NO_CALLS.contains(called.group(2))) {
                    current.add(library + called.group(2));
                }
            }
        }
        return calls;
    }

    private static int deepest(String name, Map<String, Set<String>> calls, int limit) {
        int most = 0;
        if (limit > 0) {
            for (String next : calls.getOrDefault(name, Set.of())) {
                most = Math.max(most, deepest(next, calls, limit - 1));
            }
        }
        return 1 + most;
    }

    public static void main(String[] args) throws IOException {
        face();
        source();
        CHECK.end();
    }
}
