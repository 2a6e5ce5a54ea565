import java.lang.reflect.Constructor;
import java.lang.reflect.Field;
import java.lang.reflect.Method;
import java.lang.reflect.Modifier;
import java.nio.file.Files;
import java.nio.file.Path;
import java.util.Set;
import java.util.TreeSet;
import java.util.regex.Matcher;
import java.util.regex.Pattern;

/** The public face is the document's, and the source keeps to what LANGUAGE.md lets be seen in it. */
public final class FaceTest {
    public static void main(String[] args) throws Exception {
        facesAreAlike();
        nothingElseIsSeen();
        forbiddenWordsAreMissing();
        Due.end();
    }

    private static Set<String> documentsFace() throws Exception {
        String doc = Files.readString(Path.of("../shared/DOC.md"));
        Matcher lines = Pattern.compile("    public (int \\w+\\([^)]*\\));").matcher(doc);
        Set<String> face = new TreeSet<>();
        while (lines.find()) {
            face.add(lines.group(1).replaceAll("(int|long) \\w+([,)])", "$1$2"));
        }
        return face;
    }

    private static void facesAreAlike() throws Exception {
        Set<String> face = new TreeSet<>();
        for (Method method : ScrewLeft.class.getDeclaredMethods()) {
            if (!Modifier.isPrivate(method.getModifiers()) && !method.isSynthetic()) {
                StringBuilder line = new StringBuilder();
                line.append(method.getReturnType()).append(' ').append(method.getName()).append('(');
                String comma = "";
                for (Class<?> type : method.getParameterTypes()) {
                    line.append(comma).append(type);
                    comma = ", ";
                }
                face.add(line.append(')').toString());
            }
        }
        Set<String> wanted = documentsFace();
        Due.is("methods in the document's face", wanted.size(), 36);
        Due.holds("the face is the document's: " + face, face.equals(wanted));
    }

    private static void nothingElseIsSeen() {
        int type = ScrewLeft.class.getModifiers();
        Due.holds("the class is public and final", Modifier.isPublic(type) && Modifier.isFinal(type));
        for (Field field : ScrewLeft.class.getDeclaredFields()) {
            Due.holds(field + " is private", Modifier.isPrivate(field.getModifiers()));
        }
        Constructor<?>[] all = ScrewLeft.class.getDeclaredConstructors();
        Due.is("constructors", all.length, 1);
        Due.holds("the constructor is public", Modifier.isPublic(all[0].getModifiers()));
        for (Class<?> inside : ScrewLeft.class.getDeclaredClasses()) {
            int is = inside.getModifiers();
            boolean hidden = !Modifier.isPublic(is) && !Modifier.isProtected(is);
            Due.holds(inside + " is static and not public", Modifier.isStatic(is) && hidden);
        }
        Due.holds("some twelve classes", ScrewLeft.class.getDeclaredClasses().length <= 11);
    }

    private static void forbiddenWordsAreMissing() throws Exception {
        String source = Files.readString(Path.of("src/main/java/ScrewLeft.java"));
        String code = source.replaceAll("(?s)/\\*.*?\\*/", "").replaceAll("//.*", "");
        String[] words = {"throw", "throws", "try", "catch", "synchronized", "assert", "import",
            "package", "protected", "instanceof", "volatile", "enum", "record"};
        for (String word : words) {
            boolean there = Pattern.compile("\\b" + word + "\\b").matcher(code).find();
            Due.holds("without the word " + word, !there);
        }
        Due.holds("without lambdas", !code.contains("->") && !code.contains("::"));
        Due.holds("without annotations", !code.contains("@"));
    }
}
