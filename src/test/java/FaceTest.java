import java.io.IOException;
import java.lang.reflect.Constructor;
import java.lang.reflect.Field;
import java.lang.reflect.Method;
import java.lang.reflect.Modifier;
import java.nio.charset.StandardCharsets;
import java.nio.file.Files;
import java.nio.file.Path;
import java.util.Arrays;
import java.util.Set;
import java.util.TreeSet;
import java.util.regex.Matcher;
import java.util.regex.Pattern;

/** The public face, and what of ../shared/LANGUAGE.md can be seen by machine. */
final class FaceTest {
    private static final String[] FACE = {
        "int row(int, int, int)", "int set(int, int, long)", "int copy(int, int, int, int, int)",
        "long element(int, int)", "int show(int, int)", "int holds(int)", "int says(int, int)",
        "int child(int, int, int)", "int sack(int, int)", "int childOf(int, int)", "int sackOf(int, int)",
        "int wears(int, int)", "int ahead(int, int)", "int ask(int, int)", "int roll(boolean)", "int field(int)",
        "int fault()", "int behind(int, int, int)", "int comesIn(int)", "int wins(int)", "int best(int, int)",
        "int given(int, int, int)", "int two(int, int, int)", "int pair()", "int start(int, int)", "int atOnce()",
        "int heats(int, int)", "int legs(int, int)", "int wall(int)", "int judge(int, int)", "int meant(int)",
        "int worn(int, int)", "int race()", "int summer(int, int)", "int seed(int)", "int act(int, int, int)",
        "int trace(int)", "int image()", "int restore()", "int status(int)"};
    private static final Path SOURCE = Path.of("src/main/java/InASackToTheRope.java");

    private FaceTest() {
    }

    static void all() {
        Check.test("the public face", FaceTest::face);
        Check.test("no other member is seen", FaceTest::noOther);
        Check.test("sizes of classes and methods", FaceTest::sizes);
        Check.test("words that the language leaves out", FaceTest::words);
        Check.test("nothing of the library but what the language has", FaceTest::library);
        Check.test("objects are made with an object alone, by no call", FaceTest::objects);
        Check.test("loops have an end in their own lines", FaceTest::loops);
    }

    private static String told(Method method) {
        StringBuilder told = new StringBuilder(method.getReturnType() + " " + method.getName() + "(");
        for (Class<?> type : method.getParameterTypes()) {
            told.append(told.charAt(told.length() - 1) == '(' ? "" : ", ").append(type);
        }
        return told.append(")").toString();
    }

    private static void face() {
        Set<String> is = new TreeSet<>();
        for (Method method : InASackToTheRope.class.getDeclaredMethods()) {
            if (Modifier.isPublic(method.getModifiers())) {
                is.add(told(method));
                Check.holds(method + " isn't static", !Modifier.isStatic(method.getModifiers()));
            }
        }
        Set<String> want = new TreeSet<>(Arrays.asList(FACE));
        Check.holds("the face is " + want + ", not " + is, is.equals(want));
        Check.due("NONE", InASackToTheRope.NONE, -1);
        int modifiers = InASackToTheRope.class.getModifiers();
        Check.holds("public and final", Modifier.isPublic(modifiers) && Modifier.isFinal(modifiers));
        Constructor<?>[] constructors = InASackToTheRope.class.getDeclaredConstructors();
        Check.due("constructors", constructors.length, 1);
        Check.due("their parameters", constructors[0].getParameterCount(), 0);
        Check.holds("public", Modifier.isPublic(constructors[0].getModifiers()));
    }

    private static void noOther() {
        Set<String> names = new TreeSet<>();
        for (Method method : InASackToTheRope.class.getDeclaredMethods()) {
            if (Modifier.isPublic(method.getModifiers())) {
                names.add(method.getName());
            }
        }
        for (Method method : InASackToTheRope.class.getDeclaredMethods()) {
            int modifiers = method.getModifiers();
            Check.holds(method + " is public or private", Modifier.isPublic(modifiers) || Modifier.isPrivate(modifiers));
            Check.holds(method + " has a name of its own",
                    Modifier.isPublic(modifiers) || !names.contains(method.getName()));
        }
        for (Field field : InASackToTheRope.class.getDeclaredFields()) {
            Check.holds(field + " is private, but NONE",
                    Modifier.isPrivate(field.getModifiers()) != field.getName().equals("NONE"));
        }
        for (Class<?> inside : InASackToTheRope.class.getDeclaredClasses()) {
            int modifiers = inside.getModifiers();
            Check.holds(inside + " is static and not public", Modifier.isStatic(modifiers)
                    && !Modifier.isPublic(modifiers) && !Modifier.isProtected(modifiers));
            for (Method method : inside.getDeclaredMethods()) {
                Check.holds(method + " has a name of its own", !names.contains(method.getName()));
            }
        }
    }

    private static void sizes() {
        Class<?>[] insides = InASackToTheRope.class.getDeclaredClasses();
        Check.holds("some twelve classes", insides.length + 1 <= 12);
        sizesOf(InASackToTheRope.class);
        for (Class<?> inside : insides) {
            sizesOf(inside);
        }
    }

    private static void sizesOf(Class<?> type) {
        int fields = 0;
        for (Field field : type.getDeclaredFields()) {
            boolean isStatic = Modifier.isStatic(field.getModifiers());
            fields += isStatic ? 0 : 1;
            Check.holds(field + " is final, if it is static", !isStatic || Modifier.isFinal(field.getModifiers()));
        }
        Check.holds("some twenty fields of " + type, fields <= 20);
        for (Method method : type.getDeclaredMethods()) {
            Check.holds("seven parameters of " + method, method.getParameterCount() <= 7);
        }
    }

    private static String source() {
        try {
            return Files.readString(SOURCE, StandardCharsets.UTF_8);
        } catch (IOException e) {
            Check.fail("no source: " + e);
            return "";
        }
    }

    /** The source without comments, and without what stands in texts and signs. */
    private static String code() {
        return source().replaceAll("(?s)/\\*.*?\\*/", " ").replaceAll("//[^\n]*", " ")
                .replaceAll("\"[^\"\n]*\"", "\"\"").replaceAll("'[^'\n]'", "' '");
    }

    private static void library() {
        Set<String> own = new TreeSet<>();
        Set<String> types = new TreeSet<>(Arrays.asList("String", "Math", "System", "Arrays", "InASackToTheRope"));
        for (Method method : InASackToTheRope.class.getDeclaredMethods()) {
            own.add(method.getName());
        }
        for (Class<?> inside : InASackToTheRope.class.getDeclaredClasses()) {
            types.add(inside.getSimpleName());
            for (Method method : inside.getDeclaredMethods()) {
                own.add(method.getName());
            }
        }
        Set<String> library = Set.of("Math.abs", "Math.max", "Math.min", "System.arraycopy", "Arrays.fill",
                "length", "charAt");
        String code = code();
        Check.holds("there is code", code.length() > 1000);
        Matcher called = Pattern.compile("(?:\\b(Math|System|Arrays)|\\S)\\.(\\w+)\\(").matcher(code);
        while (called.find()) {
            String name = called.group(1) == null ? called.group(2) : called.group(1) + "." + called.group(2);
            Check.holds(name + " is the class's own, or of the library",
                    library.contains(name) || called.group(1) == null && own.contains(name));
        }
        Matcher type = Pattern.compile("\\b[A-Z]\\w*[a-z]\\w*\\b").matcher(code);
        while (type.find()) {
            Check.holds("the type " + type.group(), types.contains(type.group()) || type.group().equals("Integer"));
        }
    }

    /** Each "new" stands where a field begins, or in a constructor. */
    private static void objects() {
        String maker = "";
        for (String line : code().split("\n")) {
            if (line.matches(" {4}( {4})?\\S.*\\) \\{") && !line.matches(" +(for|if|while|switch)\\b.*")) {
                maker = line.trim();
            }
            if (line.matches(".*\\bnew\\b.*") && !line.matches(" +(private )?final [^(]* = new .*;")) {
                Check.holds("a constructor makes it: " + maker + line, maker.matches("(public )?[A-Z]\\w*\\(\\) \\{"));
            }
        }
    }

    private static void loops() {
        Matcher loop = Pattern.compile("\\b(for|while) \\(([^\n]*)\\) \\{|\\bdo\\b").matcher(code());
        int loops = 0;
        while (loop.find()) {
            loops++;
            Check.holds("a bound in " + loop.group(), loop.group(2) != null && loop.group(2).matches(".*[<>].*"));
        }
        Check.holds("there are loops", loops > 10);
    }

    private static void words() {
        String source = source();
        Check.holds("there is a source", source.contains("class InASackToTheRope"));
        for (int i = 0; i < source.length(); i++) {
            Check.holds("a plain sign at " + i, source.charAt(i) < 127);
        }
        String code = code();
        Matcher left = Pattern.compile("\\b(throw|throws|try|catch|synchronized|assert|package|float|double|Object"
                + "|hashCode|toString|equals|yield|record|sealed|volatile|native|var|[A-Za-z]+Exact)\\b|->|::|\"\"\\s*\\+|\\+\\s*\"\"").matcher(code);
        while (left.find()) {
            Check.fail("the source has " + left.group());
        }
        Matcher imports = Pattern.compile("import ([\\w.]+);").matcher(code);
        while (imports.find()) {
            Check.holds("the library has " + imports.group(1), imports.group(1).equals("java.util.Arrays"));
        }
        int opened = 0;
        int method = 0;
        String[] lines = code.split("\n");
        for (int i = 0; i < lines.length; i++) {
            if (lines[i].matches(" {4}( {4})?[\\w\\[\\]].*\\) \\{")) {
                method = i;
                opened = lines[i].indexOf(lines[i].trim());
            } else if (opened > 0 && lines[i].matches(" {" + opened + "}\\}")) {
                Check.holds("some sixty lines from line " + method, i - method <= 60);
                opened = 0;
            }
        }
    }
}
