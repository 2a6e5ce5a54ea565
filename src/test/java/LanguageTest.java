import java.io.DataInputStream;
import java.io.IOException;
import java.io.InputStream;
import java.lang.reflect.Field;
import java.lang.reflect.Method;
import java.lang.reflect.Modifier;
import java.nio.file.Files;
import java.nio.file.Path;
import java.util.ArrayList;
import java.util.Arrays;
import java.util.List;
import java.util.Map;
import java.util.Set;
import java.util.TreeSet;
import java.util.regex.Matcher;
import java.util.regex.Pattern;

/** LANGUAGE.md's rules 1 to 5, 9, 11 and 13, as far as the compiled classes and the source show them. */
public final class LanguageTest {
    /** Rule 4, by owner; what rule 4 lists as "their like" is not wanted so far. */
    private static final Map<String, Set<String>> LIBRARY = Map.of(
        "java/lang/Object", Set.of("<init>"),
        "java/lang/String", Set.of("length", "charAt", "isEmpty", "equals", "indexOf", "substring", "toCharArray"),
        "java/lang/StringBuilder", Set.of("<init>", "append", "charAt", "setCharAt", "setLength", "deleteCharAt",
            "reverse", "length", "toString"),
        "java/util/ArrayList", Set.of("<init>", "add", "get", "set", "remove", "size", "isEmpty", "clear"),
        "java/util/List", Set.of("add", "get", "set", "remove", "size", "isEmpty", "clear", "of"),
        "java/lang/Integer", Set.of("compare", "max", "min", "bitCount"),
        "java/lang/Long", Set.of("compare", "max", "min", "bitCount"),
        "java/lang/Math", Set.of("max", "min", "abs", "floorDiv", "floorMod"),
        "java/lang/System", Set.of("arraycopy"),
        "java/util/Arrays", Set.of("copyOf", "copyOfRange", "fill"));
    private static final Set<Class<?>> CONSTANTS = Set.of(int.class, long.class, boolean.class, char.class,
        String.class, int[].class, long[].class, char[].class, byte[].class);
    private static final int METHOD = 10;
    private static final int INTERFACE_METHOD = 11;

    public static void main(String[] args) throws Exception {
        List<Class<?>> classes = new ArrayList<>(List.of(ScrewLeft.class));
        classes.addAll(Arrays.asList(ScrewLeft.class.getDeclaredClasses()));
        Set<String> face = namesOfTheFace();
        for (Class<?> one : classes) {
            fieldsKeepToTheRules(one);
            methodsKeepToTheRules(one, face);
            libraryIsTheListed(one);
        }
        noClassIsHidden(classes.size());
        sourceKeepsToTheRules();
        Due.end();
    }

    private static Set<String> namesOfTheFace() {
        Set<String> names = new TreeSet<>();
        for (Method method : ScrewLeft.class.getDeclaredMethods()) {
            if (Modifier.isPublic(method.getModifiers())) {
                names.add(method.getName());
            }
        }
        return names;
    }

    private static void fieldsKeepToTheRules(Class<?> one) {
        int own = 0;
        for (Field field : one.getDeclaredFields()) {
            boolean isStatic = Modifier.isStatic(field.getModifiers());
            boolean isFinal = Modifier.isFinal(field.getModifiers());
            own += isStatic ? 0 : 1;
            Due.holds("rule 5: " + field + " is a constant", !isStatic || isFinal && CONSTANTS.contains(field.getType()));
            Due.holds("rule 3: the type of " + field, isOfTheLanguage(field.getType()));
        }
        Due.holds("rule 11: " + one + " has " + own + " fields", own <= 20);
    }

    private static boolean isOfTheLanguage(Class<?> type) {
        Class<?> part = type;
        int dimensions = 0;
        while (part.isArray()) {
            part = part.getComponentType();
            dimensions++;
        }
        boolean own = part == ScrewLeft.class || part.getDeclaringClass() == ScrewLeft.class;
        if (own) {
            return dimensions <= 1;
        }
        return part.isPrimitive() ? dimensions <= 2 : dimensions == 0 && (part == String.class || part == StringBuilder.class
            || part == ArrayList.class || part == List.class);
    }

    private static void methodsKeepToTheRules(Class<?> one, Set<String> face) {
        for (Method method : one.getDeclaredMethods()) {
            boolean hidden = !Modifier.isPublic(method.getModifiers());
            Due.holds("rule 1: " + method + " bears no name of the face", !hidden || !face.contains(method.getName()));
            Due.holds("rule 11: parameters of " + method, method.getParameterCount() <= 7);
            Due.holds("rule 2: " + method + " is written out", !method.isSynthetic() && !method.isBridge());
        }
    }

    /** The constant pool names each method that the class may call. */
    private static void libraryIsTheListed(Class<?> one) throws IOException {
        String file = one.getName() + ".class";
        try (InputStream bytes = LanguageTest.class.getResourceAsStream("/" + file)) {
            DataInputStream in = new DataInputStream(bytes);
            in.readInt();
            in.readInt();
            int n = in.readUnsignedShort();
            int[][] entries = new int[n][3];
            String[] texts = new String[n];
            for (int i = 1; i < n; i++) {
                i += readEntry(in, entries, texts, i);
            }
            for (int[] entry : entries) {
                Due.holds("rule 2: " + file + " calls nothing that is bound later", entry[0] < 15);
                if (entry[0] == METHOD || entry[0] == INTERFACE_METHOD) {
                    String owner = texts[entries[entry[1]][1]];
                    String name = texts[entries[entry[2]][1]];
                    boolean own = owner.equals("ScrewLeft") || owner.startsWith("ScrewLeft$");
                    boolean listed = LIBRARY.containsKey(owner) && LIBRARY.get(owner).contains(name);
                    boolean cloned = owner.startsWith("[") && name.equals("clone");
                    Due.holds("rule 4: " + file + " calls " + owner + "." + name, own || listed || cloned);
                }
            }
        }
    }

    /** Answers how many entries more this one takes. */
    private static int readEntry(DataInputStream in, int[][] entries, String[] texts, int i) throws IOException {
        int tag = in.readUnsignedByte();
        entries[i][0] = tag;
        switch (tag) {
            case 1:
                texts[i] = in.readUTF();
                return 0;
            case 3: case 4:
                in.readInt();
                return 0;
            case 5: case 6:
                in.readLong();
                return 1;
            case 7: case 8: case 16: case 19: case 20:
                entries[i][1] = in.readUnsignedShort();
                return 0;
            case 15:
                in.readUnsignedByte();
                entries[i][1] = in.readUnsignedShort();
                return 0;
            default:
                entries[i][1] = in.readUnsignedShort();
                entries[i][2] = in.readUnsignedShort();
                return 0;
        }
    }

    /** A local or an anonymous class, or a switch's table, would be a file more. */
    private static void noClassIsHidden(int classes) throws Exception {
        Path here = Path.of(ScrewLeft.class.getProtectionDomain().getCodeSource().getLocation().toURI());
        int files = 0;
        try (var found = Files.newDirectoryStream(here, "ScrewLeft*.class")) {
            for (Path file : found) {
                files += file.getFileName().toString().matches("ScrewLeft(\\$.*)?\\.class") ? 1 : 0;
            }
        }
        Due.is("rule 2: files of classes", files, classes);
    }

    private static void sourceKeepsToTheRules() throws IOException {
        String source = Files.readString(Path.of("src/main/java/ScrewLeft.java"));
        Due.holds("rule 4: signs 1 to 127", source.chars().allMatch(sign -> sign >= 1 && sign <= 127));
        String code = source.replaceAll("(?s)/\\*.*?\\*/", "").replaceAll("//.*", "");
        Due.holds("rule 5: no static block", !Pattern.compile("static\\s*\\{").matcher(code).find());
        Due.holds("rule 9: no loop without an end", !Pattern.compile("while\\s*\\(true\\)|;\\s*;").matcher(code).find());
        Due.holds("rule 13: no clock, no randomness", !Pattern.compile("\\b(nanoTime|currentTimeMillis|Random|random|hashCode)\\b")
            .matcher(code).find());
        Pattern head = Pattern.compile("^( {4}| {8})(?! )[^;=]*\\(.*\\{$");
        String[] lines = source.split("\n");
        int methods = 0;
        for (int i = 0; i < lines.length; i++) {
            Matcher found = head.matcher(lines[i]);
            if (found.matches()) {
                int end = i;
                while (end < lines.length && !lines[end].equals(found.group(1) + "}")) {
                    end++;
                }
                methods++;
                Due.holds("rule 11: " + lines[i].trim() + " has " + (end - i + 1) + " lines", end - i < 60);
            }
        }
        Due.holds("methods were found: " + methods, methods > 90);
    }
}
