import java.util.Random;

/** Promise 9: each TEXT of up to four signs, and longer ones by draws, as the Model finds them. */
public final class TextFaultsTest {
    private static final String SIGNS = "|<=+*!()1sx";
    private static ScrewLeft x = new ScrewLeft();
    private static int texts;

    public static void main(String[] args) {
        all("", 4);
        Random random = new Random(1);
        for (int i = 0; i < 40000; i++) {
            StringBuilder text = new StringBuilder();
            int length = random.nextInt(18);
            while (text.length() < length) {
                text.append("|&<>+%!!(((()))))11122sssmmt".charAt(random.nextInt(28)));
                if (!Model.begins(text.toString(), "smt") && random.nextInt(9) > 0) {
                    text.setLength(text.length() - 1);
                }
            }
            compare(text.toString());
        }
        Due.end();
    }

    private static void all(String text, int more) {
        compare(text);
        for (int i = 0; more > 0 && i < SIGNS.length(); i++) {
            all(text + SIGNS.charAt(i), more - 1);
        }
    }

    private static void compare(String text) {
        // each takes four calls at most, of the 512 that an object is for
        if (++texts % 100 == 0) {
            x = new ScrewLeft();
        }
        int fault = Model.fault(text, "smt");
        Due.is("FAULT of " + text, Due.text(x, 0, text), fault < 0 ? 1 : -10 - fault);
    }
}
