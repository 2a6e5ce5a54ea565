/** Promises 11 to 13: does, undo, loose. */
public final class DoingTest {
    public static void main(String[] args) {
        does();
        doesByTired();
        doesErrors();
        undo();
        undoHoldsTheBag();
        undoErrors();
        loose();
        looseUndoes();
        looseErrors();
        Due.end();
    }

    private static void does() {
        ScrewLeft x = new ScrewLeft();
        x.step(4, 3, 0);
        x.step(12, 5, 1);
        Due.is("does(0)", x.does(0), 0);
        Due.is("MINUTE", x.count(5), 4);
        Due.is("THE BAG", x.count(3), 47);
        Due.is("DONE", x.ofStep(0, 4), 1);
        Due.is("does(1)", x.does(1), 0);
        Due.is("MINUTE then", x.count(5), 11);
        Due.is("THE BAG then", x.count(3), 42);
        Due.is("count(1)", x.count(1), 2);
    }

    /** TIRED is asked ahead of the STEP, not behind it. */
    private static void doesByTired() {
        ScrewLeft x = new ScrewLeft();
        x.step(9, 9, 0);
        x.step(9, 9, 0);
        x.set(2, 29);
        Due.is("not TIRED: right", x.does(0), 0);
        Due.is("MINUTE", x.count(5), 39);
        Due.is("TIRED by 1: WRONG", x.does(1), 1);
        Due.is("MINUTE then", x.count(5), 50);
        Due.is("WRONG", x.ofStep(1, 5), 1);
        Due.is("count(2)", x.count(2), 1);
    }

    private static void doesErrors() {
        ScrewLeft x = new ScrewLeft();
        x.step(0, 3, 0);
        x.step(0, 3, 1);
        x.step(60, 0, 0);
        String before = Due.stateOf(x);
        Due.is("does(-1)", x.does(-1), Due.BEYOND);
        Due.is("does(3)", x.does(3), Due.BEYOND);
        Due.is("what it needs isn't done", x.does(1), Due.STATE);
        Due.is("CARRIED by one", x.does(2), Due.STATE);
        Due.holds("what is refused changes nothing", before.equals(Due.stateOf(x)));
        x.set(1, 2);
        Due.is("THE BAG lacks", x.does(0), Due.STATE);
        x.set(1, 3);
        x.set(2, 99987);
        Due.is("LASTS at the end", x.ofStep(0, 6), 13);
        Due.is("MINUTE would be 100000", x.does(0), Due.STATE);
        x.set(2, 99986);
        Due.is("MINUTE would be 99999", x.does(0), 0);
        Due.is("MINUTE is 99999", x.count(5), 99999);
        Due.is("THE BAG is empty", x.count(3), 0);
        Due.is("it is done already", x.does(0), Due.STATE);
    }

    private static void undo() {
        ScrewLeft x = new ScrewLeft();
        x.step(9, 6, 0);
        x.step(30, 0, 0);
        x.step(0, 1, 0);
        x.set(2, 90);
        Due.is("does(0), WRONG", x.does(0), 1);
        Due.is("MINUTE", x.count(5), 100);
        Due.is("one screw strips", x.undo(0), 49);
        Due.is("MINUTE then", x.count(5), 105);
        Due.is("not DONE", x.ofStep(0, 4), 0);
        Due.is("nor WRONG", x.ofStep(0, 5), 0);
        Due.is("none WRONG", x.count(2), 0);
        x.does(1);
        Due.is("MINUTE of HELD", x.count(5), 113);
        Due.is("without screws none strips", x.undo(1), 49);
        Due.is("BACK of HELD", x.count(5), 121);
        x.does(2);
        Due.is("THE BAG", x.count(3), 48);
        Due.is("the only screw strips", x.undo(2), 48);
    }

    private static void undoHoldsTheBag() {
        ScrewLeft x = new ScrewLeft();
        x.step(0, 9, 0);
        x.does(0);
        x.set(1, 995);
        Due.is("THE BAG is held", x.undo(0), 999);
    }

    private static void undoErrors() {
        ScrewLeft x = new ScrewLeft();
        x.step(0, 1, 0);
        x.step(20, 1, 0);
        x.step(50, 1, 0);
        x.step(0, 1, 1);
        Due.is("not DONE", x.undo(0), Due.STATE);
        Due.is("undo(4)", x.undo(4), Due.BEYOND);
        Due.is("undo(-1)", x.undo(-1), Due.BEYOND);
        for (int i = 0; i < 4; i++) {
            x.does(i);
        }
        String before = Due.stateOf(x);
        Due.is("GLUED", x.undo(1), Due.STATE);
        Due.is("SEALED", x.undo(2), Due.STATE);
        Due.is("one that is needed", x.undo(0), Due.STATE);
        Due.holds("what is refused changes nothing", before.equals(Due.stateOf(x)));
        x.set(2, 99995);
        Due.is("BACK at the end", x.ofStep(3, 7), 5);
        Due.is("MINUTE would be 100000", x.undo(3), Due.STATE);
        x.set(2, 99994);
        Due.is("MINUTE would be 99999", x.undo(3), 46);
    }

    /** The draws from z 1 on, worked out here. */
    private static int[] draws(int seed, int n) {
        int[] draws = new int[n];
        int z = seed;
        for (int i = 0; i < n; i++) {
            z = z * 1103515245 + 12345;
            draws[i] = (z >>> 8) % 8;
        }
        return draws;
    }

    private static void loose() {
        ScrewLeft x = new ScrewLeft();
        Due.is("without STEPS", x.loose(40), 0);
        Due.is("each took one MINUTE", x.count(5), 40);
        ScrewLeft y = new ScrewLeft();
        for (int i = 0; i < 8; i++) {
            y.step(20, 0, 0);
        }
        int[] draws = draws(1, 40);
        int seen = 0;
        int repeats = 0;
        for (int draw : draws) {
            repeats += seen >>> draw & 1;
            seen |= 1 << draw;
        }
        Due.is("GLUED ones are done once", y.loose(40), Integer.bitCount(seen));
        Due.is("all that were drawn", y.next(0), 255 & ~seen);
        Due.holds("others let a MINUTE pass", y.count(5) >= repeats + 3 * Integer.bitCount(seen));
        int z = 1;
        for (int i = 0; i < 40; i++) {
            z = z * 1103515245 + 12345;
        }
        Due.is("z", y.count(10), z);
    }

    private static void looseUndoes() {
        ScrewLeft x = new ScrewLeft();
        x.step(0, 5, 0);
        int seed = 0;
        while (draws(seed, 2)[0] != 0 || draws(seed, 2)[1] != 0) {
            seed++;
        }
        x.seed(seed);
        Due.is("done, and undone", x.loose(2), 1);
        Due.is("not DONE", x.ofStep(0, 4), 0);
        Due.is("one screw stripped", x.count(3), 49);
        Due.is("MINUTE", x.count(5), 6 + 3);
        int negative = -1;
        while (draws(negative, 1)[0] != 0) {
            negative--;
        }
        x.seed(negative);
        Due.is("z below 0", x.loose(1), 1);
    }

    private static void looseErrors() {
        ScrewLeft x = new ScrewLeft();
        String before = Due.stateOf(x);
        int[] wrong = {0, -1, 41, Integer.MAX_VALUE, Integer.MIN_VALUE};
        for (int n : wrong) {
            Due.is("loose(" + n + ")", x.loose(n), Due.BEYOND);
        }
        Due.holds("what is refused changes nothing", before.equals(Due.stateOf(x)));
        x.set(2, 99700);
        Due.is("MINUTE could be 100000", x.loose(1), Due.STATE);
        Due.is("z is as it was", x.count(10), 1);
        Due.is("BEYOND is asked ahead of STATE", x.loose(41), Due.BEYOND);
        x.set(2, 99699);
        Due.is("MINUTE could be 99999", x.loose(1), 0);
        x.set(2, 99999 - 40 * 300);
        Due.is("forty draws", x.loose(40), 0);
        Due.is("MINUTE", x.count(5), 99999 - 40 * 300 + 40);
    }
}
