import java.io.DataInputStream;
import java.io.IOException;
import java.lang.reflect.Field;
import java.lang.reflect.Method;
import java.lang.reflect.Modifier;
import java.nio.file.Files;
import java.nio.file.Path;
import java.util.ArrayList;
import java.util.List;
import java.util.Set;
import java.util.TreeSet;

/** LANGUAGE.md: the rules that can be seen from the compiled class and from the text of its file. */
public final class RulesTest {
    private static final Check CHECK = new Check("RulesTest");

    /** The public face, as DOC.md writes it. */
    private static final String FACE = """
        int paragraph(int,int,int,int) IllegalArgumentException IllegalStateException
        int item(int,int,int) IllegalArgumentException IllegalStateException
        int type(int,int,int) IndexOutOfBoundsException IllegalArgumentException IllegalStateException
        int sow(int,int,int,int) IndexOutOfBoundsException IllegalArgumentException
        int rub(int,int) IndexOutOfBoundsException IllegalArgumentException
        String retype(int,int,int) IndexOutOfBoundsException IllegalArgumentException
        int note(int,int,int,int) IndexOutOfBoundsException IllegalArgumentException IllegalStateException
        int drop(int) IndexOutOfBoundsException
        int move(int,int) IndexOutOfBoundsException
        int set(int,int) IllegalArgumentException
        int exception(int,int) IllegalArgumentException
        int stop(int,int) IllegalArgumentException
        int keep()
        int knock()
        String typed(int) IndexOutOfBoundsException
        String word(int,int) IndexOutOfBoundsException IllegalArgumentException
        String dashed(int) IllegalArgumentException
        int width(int) IllegalArgumentException
        String index(int) IllegalArgumentException
        int lines(int) IndexOutOfBoundsException
        String line(int,int) IndexOutOfBoundsException
        String mirrored(int,int) IndexOutOfBoundsException
        int ofLine(int,int,int) IndexOutOfBoundsException IllegalArgumentException
        int badness(int,boolean) IndexOutOfBoundsException
        int fits(int) IndexOutOfBoundsException
        int would(int,int) IndexOutOfBoundsException IllegalArgumentException
        int rivers(int) IndexOutOfBoundsException
        String marker(int) IndexOutOfBoundsException
        int nearest(int,boolean) IllegalArgumentException
        int pages()
        String page(int) IndexOutOfBoundsException
        String pageLine(int,int) IndexOutOfBoundsException
        int ofPage(int,int) IndexOutOfBoundsException IllegalArgumentException
        int notePage(int,int) IndexOutOfBoundsException
        int even(int) IllegalArgumentException
        String changed()
        int house(int) IllegalArgumentException
        boolean isSound()
        long digest()
        """;

    private static final String[] NEVER = {"->", "::", " try ", "catch", "finally", "synchronized", "assert",
        "instanceof", "record ", "interface ", "import ", "package ", "Exact", "double", "float", "System.", "String[]",
        "Object", "static {", "equals(", "hashCode", "+ \"", "\" +", "@"};

    /** Rules 4 and 6: what the class calls of the library, as its compiled files name it. */
    private static final Set<String> LIBRARY = Set.of("java/lang/Object.<init>()V",
        "java/lang/String.charAt(I)C", "java/lang/String.indexOf(I)I", "java/lang/String.length()I",
        "java/lang/String.isEmpty()Z", "java/lang/String.equals(Ljava/lang/Object;)Z",
        "java/lang/String.substring(I)Ljava/lang/String;", "java/lang/String.substring(II)Ljava/lang/String;",
        "java/lang/StringBuilder.<init>()V", "java/lang/StringBuilder.append(C)Ljava/lang/StringBuilder;",
        "java/lang/StringBuilder.append(I)Ljava/lang/StringBuilder;",
        "java/lang/StringBuilder.append(Ljava/lang/String;)Ljava/lang/StringBuilder;",
        "java/lang/StringBuilder.charAt(I)C", "java/lang/StringBuilder.setCharAt(IC)V",
        "java/lang/StringBuilder.setLength(I)V", "java/lang/StringBuilder.length()I",
        "java/lang/StringBuilder.deleteCharAt(I)Ljava/lang/StringBuilder;",
        "java/lang/StringBuilder.reverse()Ljava/lang/StringBuilder;",
        "java/lang/StringBuilder.toString()Ljava/lang/String;",
        "java/lang/Math.abs(I)I", "java/lang/Math.max(II)I", "java/lang/Math.min(II)I",
        "java/lang/IllegalArgumentException.<init>(Ljava/lang/String;)V",
        "java/lang/IllegalStateException.<init>(Ljava/lang/String;)V",
        "java/lang/IndexOutOfBoundsException.<init>(Ljava/lang/String;)V");

    public static void main(String[] args) throws Exception {
        face();
        classes();
        for (Class<?> inside : all()) {
            library(inside);
        }
        source(Files.readString(Path.of(args.length > 0 ? args[0] : ".", "src/main/java/Justline.java")));
        CHECK.end();
    }

    private static String signature(Method m) {
        StringBuilder text = new StringBuilder(m.getReturnType().getSimpleName() + " " + m.getName() + "(");
        for (Class<?> type : m.getParameterTypes()) {
            text.append(text.charAt(text.length() - 1) == '(' ? "" : ",").append(type.getSimpleName());
        }
        text.append(")");
        for (Class<?> thrown : m.getExceptionTypes()) {
            text.append(" ").append(thrown.getSimpleName());
        }
        return text.toString();
    }

    private static void face() {
        Set<String> due = new TreeSet<>(FACE.lines().toList());
        Set<String> got = new TreeSet<>();
        Set<String> names = new TreeSet<>();
        for (Method m : Justline.class.getDeclaredMethods()) {
            if (Modifier.isPublic(m.getModifiers())) {
                got.add(signature(m));
                names.add(m.getName());
            } else {
                CHECK.holds("private " + m.getName(), Modifier.isPrivate(m.getModifiers()) || m.isSynthetic());
            }
        }
        CHECK.same("the face", got, due);
        CHECK.holds("final", Modifier.isFinal(Justline.class.getModifiers()));
        CHECK.same("constructors", Justline.class.getDeclaredConstructors().length, 1);
        for (Class<?> inside : all()) {
            for (Method m : inside.getDeclaredMethods()) {
                boolean isFace = inside == Justline.class && Modifier.isPublic(m.getModifiers());
                CHECK.holds(inside + "." + m.getName() + " bears no public name", isFace || !names.contains(m.getName()));
                CHECK.holds(m.getName() + " takes seven at most", m.getParameterCount() <= 7);
            }
        }
    }

    private static List<Class<?>> all() {
        List<Class<?>> all = new ArrayList<>(List.of(Justline.class.getDeclaredClasses()));
        all.add(Justline.class);
        return all;
    }

    private static void classes() {
        CHECK.holds("twelve classes at most", all().size() <= 12);
        for (Class<?> inside : all()) {
            int fields = 0;
            for (Field f : inside.getDeclaredFields()) {
                CHECK.holds(f + " is private", Modifier.isPrivate(f.getModifiers()) || f.isSynthetic());
                if (Modifier.isStatic(f.getModifiers())) {
                    CHECK.holds(f + " is a constant", Modifier.isFinal(f.getModifiers()));
                } else {
                    fields++;
                }
            }
            CHECK.holds(inside + " has twenty fields at most: " + fields, fields <= 20);
            int modifiers = inside.getModifiers();
            CHECK.holds(inside + " is static", inside == Justline.class || Modifier.isStatic(modifiers));
            CHECK.holds(inside + " is private", inside == Justline.class || Modifier.isPrivate(modifiers));
        }
    }

    /** Reads the table of names at the head of a compiled file: each method that is called stands there. */
    private static void library(Class<?> inside) throws IOException {
        try (DataInputStream in = new DataInputStream(
                Justline.class.getResourceAsStream(inside.getName() + ".class"))) {
            in.readLong();
            int many = in.readUnsignedShort();
            String[] texts = new String[many];
            int[][] pairs = new int[many][];
            List<int[]> called = new ArrayList<>();
            for (int n = 1; n < many; n++) {
                int tag = in.readUnsignedByte();
                switch (tag) {
                    case 1: texts[n] = in.readUTF(); break;
                    case 3: case 4: in.readInt(); break;
                    case 5: case 6: in.readLong(); n++; break;
                    case 7: case 8: case 16: case 19: case 20: pairs[n] = new int[] {in.readUnsignedShort()}; break;
                    case 15: in.readUnsignedByte(); in.readUnsignedShort(); break;
                    default: pairs[n] = new int[] {in.readUnsignedShort(), in.readUnsignedShort()}; break;
                }
                if (tag >= 9 && tag <= 11) {
                    called.add(pairs[n]);
                }
                CHECK.holds(inside + " makes no lambda and joins no texts by +", tag < 15 || tag > 18);
            }
            for (int[] call : called) {
                String owner = texts[pairs[call[0]][0]];
                String name = owner + "." + texts[pairs[call[1]][0]] + texts[pairs[call[1]][1]];
                CHECK.holds(inside + " uses " + name, owner.startsWith("Justline") || LIBRARY.contains(name));
            }
        }
    }

    private static void source(String text) {
        String code = text.replaceAll("(?s)/\\*.*?\\*/", "").replaceAll("//[^\n]*", "");
        for (String never : NEVER) {
            CHECK.holds("never " + never, !code.contains(never));
        }
        CHECK.holds("signs 1 to 127", text.chars().allMatch(c -> c >= 1 && c <= 127));
        int begin = -1;
        String[] lines = text.split("\n");
        for (int n = 0; n < lines.length; n++) {
            if (lines[n].matches(" {4,8}[A-Za-z].*\\(.*|            throws .*") && !lines[n].endsWith(";")) {
                begin = lines[n].startsWith("            ") ? begin : n;
            }
            if (lines[n].matches(" {4,8}\\}") && begin >= 0) {
                CHECK.holds("sixty lines at most from line " + (begin + 1), n - begin < 60);
                begin = -1;
            }
        }
        // a throw stands in methods of the face and in those it asks first
        CHECK.holds("no throw in a class inside", !code.substring(code.indexOf("static final class")).contains("throw new"));
    }
}
