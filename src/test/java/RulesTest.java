import java.lang.reflect.Field;
import java.lang.reflect.Method;
import java.lang.reflect.Modifier;
import java.nio.file.Files;
import java.nio.file.Path;
import java.util.ArrayList;
import java.util.List;
import java.util.Set;
import java.util.TreeSet;

/** LANGUAGE.md: the rules that can be seen from the compiled class and from the text of its file. */
public final class RulesTest {
    private static final Check CHECK = new Check("RulesTest");

    /** The public face, as DOC.md writes it. */
    private static final String FACE = """
        int paragraph(int,int,int,int) IllegalArgumentException IllegalStateException
        int item(int,int,int) IllegalArgumentException IllegalStateException
        int type(int,int,int) IndexOutOfBoundsException IllegalArgumentException IllegalStateException
        int sow(int,int,int,int) IndexOutOfBoundsException IllegalArgumentException
        int rub(int,int) IndexOutOfBoundsException IllegalArgumentException
        String retype(int,int,int) IndexOutOfBoundsException IllegalArgumentException
        int note(int,int,int,int) IndexOutOfBoundsException IllegalArgumentException IllegalStateException
        int drop(int) IndexOutOfBoundsException
        int move(int,int) IndexOutOfBoundsException
        int set(int,int) IllegalArgumentException
        int exception(int,int) IllegalArgumentException
        int stop(int,int) IllegalArgumentException
        int keep()
        int knock()
        String typed(int) IndexOutOfBoundsException
        String word(int,int) IndexOutOfBoundsException IllegalArgumentException
        String dashed(int) IllegalArgumentException
        int width(int) IllegalArgumentException
        String index(int) IllegalArgumentException
        int lines(int) IndexOutOfBoundsException
        String line(int,int) IndexOutOfBoundsException
        String mirrored(int,int) IndexOutOfBoundsException
        int ofLine(int,int,int) IndexOutOfBoundsException IllegalArgumentException
        int badness(int,boolean) IndexOutOfBoundsException
        int fits(int) IndexOutOfBoundsException
        int would(int,int) IndexOutOfBoundsException IllegalArgumentException
        int rivers(int) IndexOutOfBoundsException
        String marker(int) IndexOutOfBoundsException
        int nearest(int,boolean) IllegalArgumentException
        int pages()
        String page(int) IndexOutOfBoundsException
        String pageLine(int,int) IndexOutOfBoundsException
        int ofPage(int,int) IndexOutOfBoundsException IllegalArgumentException
        int notePage(int,int) IndexOutOfBoundsException
        int even(int) IllegalArgumentException
        String changed()
        int house(int) IllegalArgumentException
        boolean isSound()
        long digest()
        """;

    private static final String[] NEVER = {"->", "::", " try ", "catch", "finally", "synchronized", "assert",
        "instanceof", "record ", "interface ", "import ", "package ", "Exact", "double", "float", "System.", "String[]",
        "Object", "static {", "equals(", "hashCode", "+ \"", "\" +", "@"};

    public static void main(String[] args) throws Exception {
        face();
        classes();
        source(Files.readString(Path.of(args.length > 0 ? args[0] : ".", "src/main/java/Justline.java")));
        CHECK.end();
    }

    private static String signature(Method m) {
        StringBuilder text = new StringBuilder(m.getReturnType().getSimpleName() + " " + m.getName() + "(");
        for (Class<?> type : m.getParameterTypes()) {
            text.append(text.charAt(text.length() - 1) == '(' ? "" : ",").append(type.getSimpleName());
        }
        text.append(")");
        for (Class<?> thrown : m.getExceptionTypes()) {
            text.append(" ").append(thrown.getSimpleName());
        }
        return text.toString();
    }

    private static void face() {
        Set<String> due = new TreeSet<>(FACE.lines().toList());
        Set<String> got = new TreeSet<>();
        Set<String> names = new TreeSet<>();
        for (Method m : Justline.class.getDeclaredMethods()) {
            if (Modifier.isPublic(m.getModifiers())) {
                got.add(signature(m));
                names.add(m.getName());
            } else {
                CHECK.holds("private " + m.getName(), Modifier.isPrivate(m.getModifiers()) || m.isSynthetic());
            }
        }
        CHECK.same("the face", got, due);
        CHECK.holds("final", Modifier.isFinal(Justline.class.getModifiers()));
        CHECK.same("constructors", Justline.class.getDeclaredConstructors().length, 1);
        for (Class<?> inside : all()) {
            for (Method m : inside.getDeclaredMethods()) {
                boolean isFace = inside == Justline.class && Modifier.isPublic(m.getModifiers());
                CHECK.holds(inside + "." + m.getName() + " bears no public name", isFace || !names.contains(m.getName()));
                CHECK.holds(m.getName() + " takes seven at most", m.getParameterCount() <= 7);
            }
        }
    }

    private static List<Class<?>> all() {
        List<Class<?>> all = new ArrayList<>(List.of(Justline.class.getDeclaredClasses()));
        all.add(Justline.class);
        return all;
    }

    private static void classes() {
        CHECK.holds("twelve classes at most", all().size() <= 12);
        for (Class<?> inside : all()) {
            int fields = 0;
            for (Field f : inside.getDeclaredFields()) {
                CHECK.holds(f + " is private", Modifier.isPrivate(f.getModifiers()) || f.isSynthetic());
                if (Modifier.isStatic(f.getModifiers())) {
                    CHECK.holds(f + " is a constant", Modifier.isFinal(f.getModifiers()));
                } else {
                    fields++;
                }
            }
            CHECK.holds(inside + " has twenty fields at most: " + fields, fields <= 20);
            int modifiers = inside.getModifiers();
            CHECK.holds(inside + " is static", inside == Justline.class || Modifier.isStatic(modifiers));
            CHECK.holds(inside + " is private", inside == Justline.class || Modifier.isPrivate(modifiers));
        }
    }

    private static void source(String text) {
        String code = text.replaceAll("(?s)/\\*.*?\\*/", "").replaceAll("//[^\n]*", "");
        for (String never : NEVER) {
            CHECK.holds("never " + never, !code.contains(never));
        }
        CHECK.holds("signs 1 to 127", text.chars().allMatch(c -> c >= 1 && c <= 127));
        int begin = -1;
        String[] lines = text.split("\n");
        for (int n = 0; n < lines.length; n++) {
            if (lines[n].matches(" {4,8}[A-Za-z].*\\(.*|            throws .*") && !lines[n].endsWith(";")) {
                begin = lines[n].startsWith("            ") ? begin : n;
            }
            if (lines[n].matches(" {4,8}\\}") && begin >= 0) {
                CHECK.holds("sixty lines at most from line " + (begin + 1), n - begin < 60);
                begin = -1;
            }
        }
        // a throw stands in methods of the face and in those it asks first
        CHECK.holds("no throw in a class inside", !code.substring(code.indexOf("static final class")).contains("throw new"));
    }
}
