/** Promises 27 to 31: sheet, put, move, screws, judge. */
public final class SheetsTest {
    public static void main(String[] args) {
        sheet();
        sheetErrors();
        put();
        putErrors();
        move();
        moveOverlaps();
        moveErrors();
        screws();
        screwsErrors();
        judge();
        Due.end();
    }

    /** An object with STEPS without SCREWS and a SHEET of numbers. */
    private static ScrewLeft with(int steps, int bits, int... numbers) {
        ScrewLeft x = new ScrewLeft();
        for (int i = 0; i < steps; i++) {
            x.step(0, 0, 0);
        }
        fill(x, 0, bits, numbers);
        return x;
    }

    private static void fill(ScrewLeft x, int sheet, int bits, int... numbers) {
        x.sheet(sheet, bits, numbers.length);
        for (int i = 0; i < numbers.length; i++) {
            x.put(sheet, i, numbers[i]);
        }
    }

    /** SCREWS of so many STEPS, as the SHEET gives them. */
    private static long screwsBy(ScrewLeft x, int sheet) {
        x.screws(sheet);
        long screws = 0;
        for (int i = 0; i < x.count(0); i++) {
            screws = screws * 10 + x.ofStep(i, 2);
        }
        return screws;
    }

    private static void sheet() {
        ScrewLeft x = with(3, 8, 5, 6, 7);
        Due.is("sheet(0, 16, 3)", x.sheet(0, 16, 3), 1);
        x.change(0, 0, 4);
        Due.is("all are 0 again", screwsBy(x, 0), 0);
        Due.is("forty", x.sheet(1, 32, 40), 1);
        Due.is("the last of forty", x.put(1, 39, 1), 1);
        Due.is("none", x.sheet(1, 8, 0), 1);
        Due.is("it is there", x.screws(1), 0);
        Due.is("it has no number", x.put(1, 0, 0), Due.BEYOND);
        Due.is("missing", x.sheet(1, 0, 3), 1);
        Due.is("put into a missing one", x.put(1, 0, 0), Due.NONE);
        Due.is("missing, n below 0", x.sheet(2, 0, -5), 1);
        Due.is("missing, n beyond", x.sheet(2, 0, 41), 1);
        Due.is("judge(2)", x.judge(2), Due.NONE);
    }

    private static void sheetErrors() {
        ScrewLeft x = with(1, 8, 5);
        Due.is("sheet(4, 8, 1)", x.sheet(4, 8, 1), Due.BEYOND);
        Due.is("sheet(-1, 8, 1)", x.sheet(-1, 8, 1), Due.BEYOND);
        Due.is("sheet(4, 8, -1)", x.sheet(4, 8, -1), Due.BEYOND);
        Due.is("sheet(0, 7, 1)", x.sheet(0, 7, 1), Due.BEYOND);
        Due.is("sheet(0, -8, 1)", x.sheet(0, -8, 1), Due.BEYOND);
        Due.is("sheet(0, 64, -1)", x.sheet(0, 64, -1), Due.BEYOND);
        Due.is("sheet(0, 8, 41)", x.sheet(0, 8, 41), Due.BEYOND);
        Due.is("sheet(0, 8, -1)", x.sheet(0, 8, -1), Due.STATE);
        Due.is("sheet(0, 8, the least)", x.sheet(0, 8, Integer.MIN_VALUE), Due.STATE);
        Due.is("the SHEET is as it was", screwsBy(x, 0), 5);
        Due.is("told(1)", x.told(1), 7);
        Due.is("told(3)", x.told(3), 2);
    }

    private static void put() {
        Due.is("8 bits", screwsBy(with(1, 8, 256 + 7), 0), 7);
        Due.is("16 bits", screwsBy(with(1, 16, 65536 + 7), 0), 7);
        Due.is("16 bits keep 256", with(1, 16, 256 + 7).screws(0), 0);
        Due.is("32 bits keep 65536", with(1, 32, 65536 + 7).screws(0), 0);
        Due.is("32 bits, below 0", with(1, 32, -1).screws(0), 0);
        Due.is("8 bits, below 0", screwsBy(with(1, 8, -256 + 7), 0), 7);
        ScrewLeft x = with(1, 8, 198);
        Due.text(x, 0, "99");
        x.become(0, 30);
        Due.is("LASTS", x.ofStep(0, 6), 198);
        Due.is("8 bits hold 198", x.judge(0), -1);
    }

    private static void putErrors() {
        ScrewLeft x = with(1, 8, 5);
        Due.is("put(4, 0, 1)", x.put(4, 0, 1), Due.BEYOND);
        Due.is("put(-1, 0, 1)", x.put(-1, 0, 1), Due.BEYOND);
        Due.is("put(1, 99, 1)", x.put(1, 99, 1), Due.NONE);
        Due.is("put(0, 1, 1)", x.put(0, 1, 1), Due.BEYOND);
        Due.is("put(0, -1, 1)", x.put(0, -1, 1), Due.BEYOND);
        Due.is("put(0, 0, 6)", x.put(0, 0, 6), 1);
        Due.is("only this", screwsBy(x, 0), 6);
    }

    private static void move() {
        ScrewLeft x = with(5, 16, 1, 2, 3, 4, 5);
        fill(x, 1, 16, 6, 7, 8, 9, 0);
        Due.is("move(0, 1, 1, 2, 3)", x.move(0, 1, 1, 2, 3), 3);
        Due.is("the other then", screwsBy(x, 1), 67234);
        Due.is("the one then", screwsBy(x, 0), 12345);
        Due.is("all", x.move(1, 0, 0, 0, 5), 5);
        Due.is("all then", screwsBy(x, 0), 67234);
        Due.is("nothing", x.move(1, 5, 0, 5, 0), 0);
    }

    private static void moveOverlaps() {
        ScrewLeft x = with(5, 8, 1, 2, 3, 4, 5);
        Due.is("one up", x.move(0, 0, 0, 1, 4), 4);
        Due.is("one up then", screwsBy(x, 0), 11234);
        Due.is("two down", x.move(0, 2, 0, 0, 3), 3);
        Due.is("two down then", screwsBy(x, 0), 23434);
    }

    private static void moveErrors() {
        ScrewLeft x = with(3, 8, 1, 2, 3);
        fill(x, 1, 8, 4, 5);
        fill(x, 2, 32, 6, 7, 8);
        int[][] beyond = {{4, 0, 0, 0, 1}, {0, 0, 4, 0, 1}, {-1, 0, 0, 0, 1}, {3, 0, -1, 0, 1}, {0, 0, 1, 0, 3},
            {0, 2, 1, 0, 2}, {0, 0, 1, 1, 2}, {0, -1, 1, 0, 1}, {0, 0, 1, -1, 1}, {0, 0, 1, 0, -1}, {0, 4, 1, 0, 0},
            {0, 0, 1, 3, 0}, {0, 1, 1, 0, Integer.MAX_VALUE}, {0, Integer.MAX_VALUE, 1, 0, 1},
            {0, 0, 1, Integer.MAX_VALUE, 1}, {0, Integer.MIN_VALUE, 1, 0, 0}};
        for (int[] b : beyond) {
            String call = "move(" + b[0] + ", " + b[1] + ", " + b[2] + ", " + b[3] + ", " + b[4] + ")";
            Due.is(call, x.move(b[0], b[1], b[2], b[3], b[4]), Due.BEYOND);
        }
        Due.is("from a missing one", x.move(3, 0, 0, 0, 1), Due.NONE);
        Due.is("to a missing one, beyond", x.move(0, 9, 3, 0, 1), Due.NONE);
        Due.is("of unlike bits", x.move(0, 0, 2, 0, 1), Due.KIND);
        Due.is("of unlike bits, beyond", x.move(0, 9, 2, 0, -1), Due.KIND);
        Due.is("as it was", screwsBy(x, 0), 123);
        Due.is("the other, too", screwsBy(x, 1), 453);
    }

    private static void screws() {
        Due.is("all", with(3, 8, 9, 0, 4).screws(0), 3);
        Due.is("all then", screwsBy(with(3, 8, 9, 0, 4), 0), 904);
        Due.is("up to 10", with(3, 8, 9, 10, 4).screws(0), 1);
        Due.is("up to 10 then", screwsBy(with(3, 8, 9, 10, 4), 0), 900);
        Due.is("up to what is below 0", with(3, 32, 9, 5, -1).screws(0), 2);
        Due.is("more STEPS", with(3, 8, 9).screws(0), 1);
        Due.is("fewer STEPS", with(2, 8, 1, 2, 3).screws(0), 2);
        Due.is("fewer STEPS, then 10", with(2, 8, 1, 2, 10).screws(0), 2);
        Due.is("no STEPS", with(0, 8, 1).screws(0), 0);
    }

    private static void screwsErrors() {
        ScrewLeft x = with(1, 8, 5);
        Due.is("screws(4)", x.screws(4), Due.BEYOND);
        Due.is("screws(-1)", x.screws(-1), Due.BEYOND);
        Due.is("screws(3)", x.screws(3), Due.NONE);
        ScrewLeft y = with(1, 8, 10);
        y.screws(0);
        Due.is("10 is no ERROR", y.told(1), 0);
    }

    private static void judge() {
        Due.is("all are", with(2, 8, 1, 1).judge(0), -1);
        Due.is("the first isn't", with(2, 8, 2, 1).judge(0), 0);
        Due.is("the second isn't", with(2, 8, 1, 2).judge(0), 1);
        Due.is("one lacks", with(2, 8, 1).judge(0), 1);
        Due.is("one is too many", with(2, 8, 1, 1, 1).judge(0), 2);
        Due.is("a 0 is too many", with(2, 8, 1, 1, 0, 0).judge(0), 2);
        Due.is("one isn't, ahead of one too many", with(2, 8, 1, 0, 1).judge(0), 1);
        Due.is("nothing at all", with(0, 8).judge(0), -1);
        ScrewLeft x = with(1, 32, 4);
        x.set(2, 90);
        Due.is("they LAST now", x.judge(0), -1);
        Due.is("judge(4)", x.judge(4), Due.BEYOND);
        Due.is("judge(-1)", x.judge(-1), Due.BEYOND);
        Due.is("judge(1)", x.judge(1), Due.NONE);
    }
}
