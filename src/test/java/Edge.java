import java.io.IOException;
import java.lang.reflect.InvocationTargetException;
import java.lang.reflect.Method;
import java.nio.file.Files;
import java.nio.file.Path;
import java.util.Arrays;

/** Answers that are due by a sentence of DOC.md, which is quoted, so that a failure tells what is broken. */
final class Edge {
    private static final String DOC = document();
    private static String sentence = "";

    private Edge() {
    }

    /** What follows is due by these words, which must stand in the document. */
    static void says(String words) {
        sentence = words;
        Due.holds("DOC.md says \"" + words + "\"", DOC.contains(words));
    }

    static void due(ScrewLeft x, long want, String act, Object... args) {
        is(act + Arrays.toString(args), call(x, act, args), want);
    }

    static void is(String what, long got, long want) {
        Due.is("\"" + sentence + "\": " + what, got, want);
    }

    static void holds(String what, boolean holds) {
        Due.holds("\"" + sentence + "\": " + what, holds);
    }

    /** A call by its name: ints, and a long as feed's word. */
    static int call(ScrewLeft x, String act, Object... args) {
        Class<?>[] types = new Class<?>[args.length];
        for (int i = 0; i < args.length; i++) {
            types[i] = args[i] instanceof Long ? long.class : int.class;
        }
        try {
            Method method = ScrewLeft.class.getMethod(act, types);
            return (Integer) method.invoke(x, args);
        } catch (InvocationTargetException thrown) {
            throw new IllegalStateException(act + Arrays.toString(args), thrown.getCause());
        } catch (ReflectiveOperationException missing) {
            throw new IllegalStateException(act, missing);
        }
    }

    /** A new object with STEPS of these km, each with two SCREWS, none of which NEEDS another. */
    static ScrewLeft with(int... kms) {
        ScrewLeft x = new ScrewLeft();
        for (int km : kms) {
            x.step(km, 2, 0);
        }
        return x;
    }

    static ScrewLeft eight() {
        return with(0, 0, 0, 0, 0, 0, 0, 0);
    }

    static void does(ScrewLeft x, int... steps) {
        for (int step : steps) {
            x.does(step);
        }
    }

    static void fill(ScrewLeft x, int sheet, int bits, int... numbers) {
        x.sheet(sheet, bits, numbers.length);
        for (int i = 0; i < numbers.length; i++) {
            x.put(sheet, i, numbers[i]);
        }
    }

    private static String document() {
        try {
            return Files.readString(Path.of("../shared/DOC.md")).replaceAll("\\s+", " ");
        } catch (IOException missing) {
            throw new IllegalStateException(missing);
        }
    }
}
