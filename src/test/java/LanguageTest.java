import java.lang.reflect.Constructor;
import java.lang.reflect.Field;
import java.lang.reflect.Method;
import java.lang.reflect.Modifier;
import java.nio.charset.StandardCharsets;
import java.nio.file.Files;
import java.nio.file.Path;
import java.util.HashMap;
import java.util.HashSet;
import java.util.Map;
import java.util.Set;
import java.util.TreeSet;
import java.util.regex.Matcher;
import java.util.regex.Pattern;

/** The public face, and those rules of LANGUAGE.md that can be seen from outside or from the text. */
public final class LanguageTest {
    private static final String[] FACE = {
        "int setting(int,int)", "int table(int,int)", "int clearTable()", "int ceiling(int,int,int)", "int lack(int)", "int trace()",
        "int block(int)", "int row(int,int,int,int)", "int set(int,int,int,int,long)", "long get(int,int,int,int)", "int size(int,int,int)",
        "int here(int,long,long,long,int)", "int fly(int,int,int,long,long,int)", "int export(int)", "int out(int)", "int alter(int,int)",
        "int cut(int)", "int back()", "long digest(int)", "int recorder(int,int)", "int doubled(int,int)", "int read(int)",
        "long reading(int,int,int)", "int finding(int,int)", "int ground(int,long)", "int height(int,int)", "long way(int,int,int)",
        "int glide(int,int,int)", "int compare(int,int,int,int,int)", "int bestGlide(int)", "long flown(int)", "long best(int)",
        "int corner(int)", "long bound(int)", "int point(int,long,long,long,long)", "int clearTask()", "int task(int)", "long reached(int)",
        "long taskWay()", "int judge(int)", "long cause(int,int)", "int engine(int)", "int marks(int,int)", "int part(int,int)",
        "int differ(int,int)", "long lacks(int)", "int count(int)", "int status()"};
    private static final Set<String> CONSTANTS = Set.of("NONE", "UNKNOWN", "OUTSIDE", "STATE", "FULL", "LOST", "BEYOND", "NOT_THAT", "SIZE", "SPENT");
    private static final String[] FORBIDDEN = {"throw", "throws", "try", "catch", "finally", "synchronized", "assert", "import", "package", "Double",
        "Float", "volatile", "native", "strictfp", "->", "::", "sqrt", "Object", "hashCode", "System", "Thread", "Random", "Exact"};

    /** A method's (or constructor's) first line: four or eight spaces, and no word that opens a statement. */
    private static final Pattern HEAD = Pattern.compile("    (?:    )?(?!(?:if|for|while|switch|else|do|return|case|default)\\b)[a-zA-Z][^=(]*?(\\w+)\\([^()]*\\) \\{");

    public static void main(String[] args) throws Exception {
        face();
        faceAsTold();
        nested();
        String code = code();
        text(code);
        depth(code);
        Check.end("LanguageTest");
    }

    private static String told(Method m) {
        StringBuilder s = new StringBuilder(m.getReturnType().getName()).append(' ').append(m.getName()).append('(');
        for (Class<?> type : m.getParameterTypes()) {
            s.append(s.charAt(s.length() - 1) == '(' ? "" : ",").append(type.getName());
        }
        return s.append(')').toString();
    }

    private static void face() {
        Class<?> c = GliderHouse.class;
        Check.yes("public final", Modifier.isPublic(c.getModifiers()) && Modifier.isFinal(c.getModifiers()));
        Set<String> want = new TreeSet<>(Set.of(FACE));
        Set<String> got = new TreeSet<>();
        Set<String> names = new HashSet<>();
        for (Method m : c.getDeclaredMethods()) {
            if (Modifier.isPublic(m.getModifiers())) {
                got.add(told(m));
                names.add(m.getName());
                Check.yes("no static method: " + m.getName(), !Modifier.isStatic(m.getModifiers()));
            } else {
                Check.yes("private: " + m.getName(), Modifier.isPrivate(m.getModifiers()));
            }
        }
        Check.yes("the face is " + got, got.equals(want));
        for (Class<?> inner : c.getDeclaredClasses()) {
            for (Method m : inner.getDeclaredMethods()) {
                Check.yes("own name: " + m.getName(), !names.contains(m.getName()));
            }
        }
        for (Method m : c.getDeclaredMethods()) {
            Check.yes("own name: " + m.getName(), Modifier.isPublic(m.getModifiers()) || !names.contains(m.getName()));
        }
        Set<String> constants = new HashSet<>();
        for (Field f : c.getDeclaredFields()) {
            if (Modifier.isPublic(f.getModifiers())) {
                constants.add(f.getName());
                Check.yes("constant " + f.getName(), f.getType() == int.class && Modifier.isStatic(f.getModifiers()) && Modifier.isFinal(f.getModifiers()));
            } else {
                Check.yes("private: " + f.getName(), Modifier.isPrivate(f.getModifiers()));
            }
        }
        Check.yes("constants", constants.equals(CONSTANTS));
        Constructor<?>[] made = c.getDeclaredConstructors();
        Check.yes("one public constructor", made.length == 1 && Modifier.isPublic(made[0].getModifiers()) && made[0].getParameterCount() == 0);
    }

    /** The document's own block: every method with its parameters' types, every constant with its value. */
    private static void faceAsTold() throws Exception {
        Path document = Path.of("../shared/DOC.md");
        if (!Files.exists(document)) {
            System.out.println("the document is not there, so the face is not held against it");
            return;
        }
        String words = Files.readString(document);
        int from = words.indexOf("```java");
        String block = words.substring(from, words.indexOf("```", from + 3));
        Set<String> want = new TreeSet<>();
        Matcher method = Pattern.compile("public (int|long) (\\w+)\\(([^)]*)\\);").matcher(block);
        while (method.find()) {
            want.add(method.group(1) + " " + method.group(2) + "(" + method.group(3).replaceAll("(int|long) \\w+", "$1").replace(" ", "") + ")");
        }
        Check.yes("the document's face is the one tested", want.equals(new TreeSet<>(Set.of(FACE))));
        Matcher constant = Pattern.compile("([A-Z_]+) = (-?\\d+)").matcher(block);
        int constants = 0;
        while (constant.find()) {
            Check.due(constant.group(1), GliderHouse.class.getField(constant.group(1)).getInt(null), Integer.parseInt(constant.group(2)));
            constants++;
        }
        Check.due("constants told", constants, CONSTANTS.size());
    }

    private static void nested() {
        Class<?>[] inner = GliderHouse.class.getDeclaredClasses();
        Check.yes("some twelve classes", inner.length + 1 <= 12);
        small(GliderHouse.class);
        for (Class<?> c : inner) {
            Check.yes("static: " + c.getName(), Modifier.isStatic(c.getModifiers()) && !Modifier.isPublic(c.getModifiers()));
            Check.due("classes inside " + c.getName(), c.getDeclaredClasses().length, 0);
            small(c);
        }
    }

    private static void small(Class<?> c) {
        Set<Class<?>> fine = Set.of(int.class, long.class, boolean.class, char.class, String.class, int[].class, long[].class, char[].class, byte[].class);
        int fields = 0;
        for (Field f : c.getDeclaredFields()) {
            boolean isStatic = Modifier.isStatic(f.getModifiers());
            fields += isStatic ? 0 : 1;
            if (isStatic) {
                Check.yes("static " + f.getName(), Modifier.isFinal(f.getModifiers()) && fine.contains(f.getType()));
            }
        }
        Check.yes("some twenty fields: " + c.getName(), fields <= 20);
        for (Method m : c.getDeclaredMethods()) {
            Check.yes("at most seven parameters: " + m.getName(), m.getParameterCount() <= 7);
        }
    }

    /** The class's text without its comments. */
    private static String code() throws Exception {
        String whole = Files.readString(Path.of("src/main/java/GliderHouse.java"), StandardCharsets.ISO_8859_1);
        return whole.replaceAll("(?s)/\\*.*?\\*/", "").replaceAll("//[^\n]*", "");
    }

    private static void text(String code) {
        for (String word : FORBIDDEN) {
            boolean letters = Character.isLetter(word.charAt(0));
            Matcher m = Pattern.compile(letters ? "\\b" + word + "\\b" : Pattern.quote(word)).matcher(code);
            Check.yes("without " + word, !m.find());
        }
        Check.yes("the library is Integer.compare alone", Pattern.compile("\\b(Math|Long|Integer|Arrays|List)\\.(?!compare\\()").matcher(code).results().count() == 0);
        int lines = 0;
        for (String line : code.split("\n")) {
            lines = HEAD.matcher(line).matches() ? 0 : lines + 1;
            Check.yes("short methods, but this line is " + lines + " behind a head: " + line, !line.startsWith("        ") || lines <= 60);
        }
        Check.yes("no private static double", !Pattern.compile("static final (double|float)\\b").matcher(code).find());
    }

    /** Methods of one name are taken for one, so that what is found is never less than what can stand open at once. */
    private static void depth(String code) {
        Map<String, Set<String>> calls = new HashMap<>();
        String open = null;
        for (String line : code.split("\n")) {
            Matcher head = HEAD.matcher(line);
            if (head.matches()) {
                open = head.group(1);
                calls.computeIfAbsent(open, name -> new HashSet<>());
            } else if (open != null) {
                Matcher call = Pattern.compile("(?<!Integer\\.)\\b(\\w+)\\(").matcher(line);
                while (call.find()) {
                    calls.get(open).add(call.group(1));
                }
            }
        }
        for (Method m : GliderHouse.class.getDeclaredMethods()) {
            Check.yes("seen in the text: " + m.getName(), calls.containsKey(m.getName()));
        }
        for (Class<?> inner : GliderHouse.class.getDeclaredClasses()) {
            for (Method m : inner.getDeclaredMethods()) {
                Check.yes("seen in the text: " + m.getName(), calls.containsKey(m.getName()));
            }
        }
        Map<String, Integer> known = new HashMap<>();
        for (String name : calls.keySet()) {
            int deep = depthOf(name, calls, known);
            Check.yes("calls at most eight deep: " + name + " goes " + deep, deep <= 8);
        }
    }

    /** How many calls stand open at most when this one is made; one that comes back to itself counts as too many. */
    private static int depthOf(String name, Map<String, Set<String>> calls, Map<String, Integer> known) {
        if (!known.containsKey(name)) {
            known.put(name, 1000);
            int deepest = 0;
            for (String next : calls.get(name)) {
                deepest = calls.containsKey(next) ? Math.max(deepest, depthOf(next, calls, known)) : deepest;
            }
            known.put(name, deepest + 1);
        }
        return known.get(name);
    }
}
