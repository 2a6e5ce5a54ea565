import java.lang.reflect.InvocationTargetException;
import java.lang.reflect.Method;
import java.util.Arrays;
import java.util.Comparator;
import java.util.Random;

/** Promises 1 to 37: runs of calls by draws, each answered by the class and by the Model. */
public final class ModelTest {
    private static final String SIGNS = "|&<=>+-*/%!()smtk0123456789";
    private static final int[] EDGES = {Integer.MIN_VALUE, Integer.MAX_VALUE, -1, 0, 1, 40, 41, 99999, 100000,
        Integer.MIN_VALUE + 1, Integer.MAX_VALUE - 1, 255, 256, 65535, 1 << 16, -1000000001};

    private final Random random;
    private final ScrewLeft x = new ScrewLeft();
    private final Model model = new Model();
    private final StringBuilder run = new StringBuilder();
    private boolean good = true;
    private int calls;

    private ModelTest(long seed) {
        random = new Random(seed);
    }

    public static void main(String[] args) throws Exception {
        int runs = args.length > 0 ? Integer.parseInt(args[0]) : 1500;
        for (int seed = 0; seed < runs; seed++) {
            new ModelTest(seed).run(seed);
        }
        Due.end();
    }

    private static final Method[] ACTS = acts();

    private static Method[] acts() {
        Method[] acts = Arrays.stream(ScrewLeft.class.getDeclaredMethods())
            .filter(m -> java.lang.reflect.Modifier.isPublic(m.getModifiers())).toArray(Method[]::new);
        Arrays.sort(acts, Comparator.comparing(Method::getName));
        return acts;
    }

    private void run(int seed) throws Exception {
        if (seed % 4 != 0) {
            begin();
        }
        // what is drawn takes ten calls at most, and an object is for 512
        while (calls < 500 && good) {
            Method act = ACTS[random.nextInt(ACTS.length)];
            if (act.getName().equals("text") && random.nextInt(3) > 0) {
                feedText();
            }
            if (act.getName().equals("orders") && random.nextInt(3) > 0) {
                sheetOfAnOrder();
            } else if (act.getName().equals("judge") && random.nextInt(3) > 0) {
                sheetOfWhatLasts();
            } else {
                call(act.getName(), drawn(act));
            }
        }
        Due.holds("run " + seed + (good ? "" : ":" + run), good);
    }

    /** STEPS at once, so that most calls find some. */
    private void begin() throws Exception {
        int steps = 3 + random.nextInt(6);
        for (int i = 0; i < steps; i++) {
            int needs = random.nextInt(1 << i) & random.nextInt(1 << i);
            call("step", random.nextInt(70), random.nextInt(10), needs);
        }
        if (random.nextBoolean()) {
            call("set", 1, 20 + random.nextInt(80));
        }
        if (random.nextBoolean()) {
            call("set", 2, random.nextInt(300));
        }
        for (int use = 0; use < 2; use++) {
            if (random.nextBoolean()) {
                feed(grown(use == 0 ? "smt" : "mtk", 3));
                call("text", use);
            }
        }
    }

    private Object[] drawn(Method act) {
        Class<?>[] types = act.getParameterTypes();
        Object[] args = new Object[types.length];
        for (int i = 0; i < args.length; i++) {
            args[i] = types[i] == long.class ? (Object) random.nextLong() : (Object) number(act.getName(), i);
        }
        return args;
    }

    private int number(String act, int place) {
        int luck = random.nextInt(60);
        if (luck == 0) {
            return EDGES[random.nextInt(EDGES.length)];
        }
        if (luck < 4) {
            return random.nextInt(14) - 3;
        }
        int steps = Math.max(1, model.now.parts.size());
        switch (act + place) {
            case "step0": case "become1": return random.nextInt(71);
            case "step1": return random.nextInt(10);
            case "step2": return random.nextInt(1 << steps) & random.nextInt(1 << steps);
            case "change2": return random.nextInt(3) > 0 ? random.nextInt(2) : random.nextInt(20);
            case "set1": return setting();
            case "feed1": return random.nextInt(9);
            case "text0": case "law0": return random.nextInt(2);
            case "law1": case "law2": case "law3": return random.nextInt(4) > 0 ? random.nextInt(12) : random.nextInt();
            case "loose0": return 1 + random.nextInt(40);
            case "goBack1": case "whose1": case "orders1": case "odds1": case "next0": return random.nextInt(2);
            case "order0": return random.nextInt(7) - 1;
            case "whose0": return random.nextInt(40);
            case "seed0": case "tell0": case "voice2": return random.nextBoolean() ? minute() : random.nextInt();
            case "voice1": return random.nextInt(4);
            case "trace0": return random.nextInt(8);
            case "sheet0": case "put0": case "move0": case "move2": case "screws0": case "judge0": case "orders0":
                return random.nextInt(20) > 0 ? random.nextInt(4) : random.nextInt(6) - 1;
            case "sheet1": return random.nextInt(6) > 0 ? 8 << random.nextInt(3) : 0;
            case "sheet2": return random.nextInt(5) > 0 ? 1 + random.nextInt(4) : random.nextInt(43) - 1;
            case "put1": case "move1": case "move3": case "move4": return random.nextInt(4);
            case "put2": return putting(steps);
            case "count0": return random.nextInt(12);
            case "told0": return random.nextInt(7);
            default: return random.nextInt(steps);
        }
    }

    private int setting() {
        switch (random.nextInt(5)) {
            case 0: return 1 + random.nextInt(2);
            case 1: return random.nextInt(1000);
            case 2: return 99000 + random.nextInt(1000);
            default: return random.nextInt(300);
        }
    }

    /** Often a MINUTE that check() would find. */
    private int minute() {
        Model.World thought = model.now.copy();
        for (int i = 0; i <= model.now.waiting.size() && thought.least() >= 0; i++) {
            thought.finish(thought.least());
        }
        return thought.minute;
    }

    /** Often MINUTES that orders() or judge() would find, with higher bits at times. */
    private int putting(int steps) {
        int v = random.nextBoolean() && !model.no(0) ? model.now.lasts(random.nextInt(steps)) : random.nextInt(11);
        switch (random.nextInt(8)) {
            case 0: return v + 256;
            case 1: return v + (1 << 16);
            case 2: return v - 256;
            default: return v;
        }
    }

    /** A SHEET that some order explains, where as many STEPS are open, is asked for both. */
    private void sheetOfAnOrder() throws Exception {
        Model.World thought = model.now.copy();
        int sheet = random.nextInt(4);
        int n = 1 + random.nextInt(4);
        call("sheet", sheet, 8 << random.nextInt(3), n);
        for (int i = 0; i < n && thought.least() >= 0; i++) {
            int step = thought.least();
            for (int tries = 0; tries < 6; tries++) {
                int other = random.nextInt(thought.parts.size());
                step = thought.may(other) ? other : step;
            }
            call("put", sheet, i, thought.lasts(step));
            thought.finish(step);
        }
        call("orders", sheet, 0);
        call("orders", sheet, 1);
    }

    private void sheetOfWhatLasts() throws Exception {
        int sheet = random.nextInt(4);
        int n = model.now.parts.size() + (random.nextInt(4) == 0 ? 1 : 0);
        call("sheet", sheet, 8 << random.nextInt(3), n);
        for (int i = 0; i < model.now.parts.size(); i++) {
            call("put", sheet, i, model.now.lasts(i) + (random.nextInt(15) == 0 ? 1 : 0));
        }
        call("judge", sheet);
    }

    private void feedText() throws Exception {
        StringBuilder text = new StringBuilder(grown(random.nextBoolean() ? "smt" : "mtk", 4));
        if (random.nextInt(3) == 0) {
            int at = random.nextInt(text.length() + 1);
            text.insert(at, SIGNS.charAt(random.nextInt(SIGNS.length())));
        }
        if (random.nextInt(3) == 0) {
            text.setLength(random.nextInt(text.length() + 1));
        }
        if (model.now.tape.length() + text.length() <= 50) {
            feed(text.toString());
        }
    }

    private void feed(String text) throws Exception {
        for (int from = 0; from < text.length(); from += 8) {
            int n = Math.min(8, text.length() - from);
            call("feed", Due.word(text, from, n), n);
        }
    }

    private String grown(String names, int depth) {
        String text;
        switch (depth == 0 ? random.nextInt(2) : random.nextInt(7)) {
            case 0: text = "" + names.charAt(random.nextInt(3)); break;
            case 1: text = "" + random.nextInt(random.nextBoolean() ? 10 : 10000); break;
            case 2: text = "!" + grown(names, depth - 1); break;
            case 3: text = "(" + grown(names, depth - 1) + ")"; break;
            default:
                char sign = SIGNS.charAt(random.nextInt(10));
                text = grown(names, depth - 1) + sign + grown(names, depth - 1);
        }
        return text.length() > 50 ? names.substring(0, 1) : text;
    }

    private void call(String name, Object... args) throws Exception {
        Class<?>[] types = new Class<?>[args.length];
        for (int i = 0; i < args.length; i++) {
            types[i] = args[i] instanceof Long ? long.class : int.class;
        }
        calls++;
        Object want = Model.class.getDeclaredMethod(name, types).invoke(model, args);
        Object got;
        try {
            got = ScrewLeft.class.getMethod(name, types).invoke(x, args);
        } catch (InvocationTargetException thrown) {
            got = thrown.getCause();
        }
        run.append("\n  ").append(name).append(Arrays.toString(args)).append(" = ").append(got);
        if (!got.equals(want)) {
            run.append(", due is ").append(want);
            good = false;
        }
    }
}
