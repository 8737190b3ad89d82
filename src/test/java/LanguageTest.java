import java.lang.reflect.Constructor;
import java.lang.reflect.Field;
import java.lang.reflect.Method;
import java.lang.reflect.Modifier;
import java.nio.charset.StandardCharsets;
import java.nio.file.Files;
import java.nio.file.Path;
import java.util.HashSet;
import java.util.Set;
import java.util.TreeSet;
import java.util.regex.Matcher;
import java.util.regex.Pattern;

/** The public face, and those rules of LANGUAGE.md that can be seen from outside or from the text. */
public final class LanguageTest {
    private static final String[] FACE = {
        "int setting(int,int)", "int table(int,int)", "int clearTable()", "int ceiling(int,int,int)", "int lack(int)", "int trace()",
        "int block(int)", "int row(int,int,int,int)", "int set(int,int,int,int,long)", "long get(int,int,int,int)", "int size(int,int,int)",
        "int here(int,long,long,long,int)", "int fly(int,int,int,long,long,int)", "int export(int)", "int out(int)", "int alter(int,int)",
        "int cut(int)", "int back()", "long digest(int)", "int recorder(int,int)", "int doubled(int,int)", "int read(int)",
        "long reading(int,int,int)", "int finding(int,int)", "int ground(int,long)", "int height(int,int)", "long way(int,int,int)",
        "int glide(int,int,int)", "int compare(int,int,int,int,int)", "int bestGlide(int)", "long flown(int)", "long best(int)",
        "int corner(int)", "long bound(int)", "int point(int,long,long,long,long)", "int clearTask()", "int task(int)", "long reached(int)",
        "long taskWay()", "int judge(int)", "long cause(int,int)", "int engine(int)", "int marks(int,int)", "int part(int,int)",
        "int differ(int,int)", "long lacks(int)", "int count(int)", "int status()"};
    private static final Set<String> CONSTANTS = Set.of("NONE", "UNKNOWN", "OUTSIDE", "STATE", "FULL", "LOST", "BEYOND", "NOT_THAT", "SIZE", "SPENT");
    private static final String[] FORBIDDEN = {"throw", "throws", "try", "catch", "finally", "synchronized", "assert", "import", "package", "Double",
        "Float", "volatile", "native", "strictfp", "->", "::", "sqrt", "Object", "hashCode", "System", "Thread", "Random", "Exact"};

    public static void main(String[] args) throws Exception {
        face();
        nested();
        text();
        Check.end("LanguageTest");
    }

    private static String told(Method m) {
        StringBuilder s = new StringBuilder(m.getReturnType().getName()).append(' ').append(m.getName()).append('(');
        for (Class<?> type : m.getParameterTypes()) {
            s.append(s.charAt(s.length() - 1) == '(' ? "" : ",").append(type.getName());
        }
        return s.append(')').toString();
    }

    private static void face() {
        Class<?> c = GliderHouse.class;
        Check.yes("public final", Modifier.isPublic(c.getModifiers()) && Modifier.isFinal(c.getModifiers()));
        Set<String> want = new TreeSet<>(Set.of(FACE));
        Set<String> got = new TreeSet<>();
        Set<String> names = new HashSet<>();
        for (Method m : c.getDeclaredMethods()) {
            if (Modifier.isPublic(m.getModifiers())) {
                got.add(told(m));
                names.add(m.getName());
                Check.yes("no static method: " + m.getName(), !Modifier.isStatic(m.getModifiers()));
            } else {
                Check.yes("private: " + m.getName(), Modifier.isPrivate(m.getModifiers()));
            }
        }
        Check.yes("the face is " + got, got.equals(want));
        for (Class<?> inner : c.getDeclaredClasses()) {
            for (Method m : inner.getDeclaredMethods()) {
                Check.yes("own name: " + m.getName(), !names.contains(m.getName()));
            }
        }
        for (Method m : c.getDeclaredMethods()) {
            Check.yes("own name: " + m.getName(), Modifier.isPublic(m.getModifiers()) || !names.contains(m.getName()));
        }
        Set<String> constants = new HashSet<>();
        for (Field f : c.getDeclaredFields()) {
            if (Modifier.isPublic(f.getModifiers())) {
                constants.add(f.getName());
                Check.yes("constant " + f.getName(), f.getType() == int.class && Modifier.isStatic(f.getModifiers()) && Modifier.isFinal(f.getModifiers()));
            } else {
                Check.yes("private: " + f.getName(), Modifier.isPrivate(f.getModifiers()));
            }
        }
        Check.yes("constants", constants.equals(CONSTANTS));
        Constructor<?>[] made = c.getDeclaredConstructors();
        Check.yes("one public constructor", made.length == 1 && Modifier.isPublic(made[0].getModifiers()) && made[0].getParameterCount() == 0);
    }

    private static void nested() {
        Class<?>[] inner = GliderHouse.class.getDeclaredClasses();
        Check.yes("some twelve classes", inner.length + 1 <= 12);
        for (Class<?> c : inner) {
            Check.yes("static: " + c.getName(), Modifier.isStatic(c.getModifiers()) && !Modifier.isPublic(c.getModifiers()));
            int fields = 0;
            for (Field f : c.getDeclaredFields()) {
                boolean isStatic = Modifier.isStatic(f.getModifiers());
                fields += isStatic ? 0 : 1;
                if (isStatic) {
                    Set<Class<?>> fine = Set.of(int.class, long.class, boolean.class, char.class, String.class, int[].class, long[].class, char[].class, byte[].class);
                    Check.yes("static " + f.getName(), Modifier.isFinal(f.getModifiers()) && fine.contains(f.getType()));
                }
            }
            Check.yes("some twenty fields: " + c.getName(), fields <= 20);
            for (Method m : c.getDeclaredMethods()) {
                Check.yes("at most seven parameters: " + m.getName(), m.getParameterCount() <= 7);
            }
        }
    }

    private static void text() throws Exception {
        String whole = Files.readString(Path.of("src/main/java/GliderHouse.java"), StandardCharsets.ISO_8859_1);
        String code = whole.replaceAll("(?s)/\\*.*?\\*/", "").replaceAll("//[^\n]*", "");
        for (String word : FORBIDDEN) {
            boolean letters = Character.isLetter(word.charAt(0));
            Matcher m = Pattern.compile(letters ? "\\b" + word + "\\b" : Pattern.quote(word)).matcher(code);
            Check.yes("without " + word, !m.find());
        }
        Check.yes("the library is Integer.compare alone", Pattern.compile("\\b(Math|Long|Integer|Arrays|List)\\.(?!compare\\()").matcher(code).results().count() == 0);
        int lines = 0;
        for (String line : code.split("\n")) {
            lines = line.matches("    (    )?[a-zA-Z].*\\{") && !line.contains(" class ") ? 0 : lines + 1;
            boolean ends = line.equals("    }") || line.equals("        }");
            Check.yes("short methods: " + line, !ends || lines <= 60);
        }
        Check.yes("no private static double", !Pattern.compile("static final (double|float)\\b").matcher(code).find());
    }
}
