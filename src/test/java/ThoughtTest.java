/** Promises 14 to 23: next, all, order, under, goBack, left, whose, lookAt, orders, odds. */
public final class ThoughtTest {
    public static void main(String[] args) {
        next();
        all();
        allBeyondTheLastMinute();
        order();
        orderTakesTheFirstOfAlike();
        orderErrors();
        under();
        goBack();
        goBackErrors();
        left();
        whose();
        lookAt();
        orders();
        ordersErrors();
        odds();
        nothingOfItIsDone();
        Due.end();
    }

    private static void next() {
        ScrewLeft x = Due.oneOfEach();
        Due.is("next(0), CARRIED lacks a hand", x.next(0), 63);
        Due.is("next(1)", x.next(1), 0);
        x.set(0, 2);
        Due.is("next(0) by two", x.next(0), 127);
        x.does(1);
        x.does(2);
        x.does(5);
        Due.is("next(0) then", x.next(0), 127 - 2 - 4 - 32);
        Due.is("next(1), but for what is glued", x.next(1), 2);
        x.change(4, 1, 2);
        x.does(4);
        Due.is("next(1), but for what is needed", x.next(1), 16);
        x.set(1, 1);
        Due.is("next(0) without screws", x.next(0), 0);
        Due.is("next(2)", x.next(2), Due.BEYOND);
        Due.is("next(-1)", x.next(-1), Due.BEYOND);
    }

    private static void all() {
        ScrewLeft x = new ScrewLeft();
        x.step(9, 9, 0);
        x.step(60, 1, 0);
        x.step(29, 9, 1);
        x.step(9, 9, 2);
        x.step(9, 8, 0);
        // 0 from 0 to 10, 2 from 10 to 22, 4 from 22 to 31; 1 lacks a hand, and 3 needs it
        Due.is("MINUTES", x.all(0), 31);
        Due.is("not DONE", x.all(1), 2);
        Due.is("WRONG", x.all(2), 0);
        x.set(2, 20);
        // 0 from 20 to 30, 2 (TIRED by 1, WRONG) from 30 to 43, 4 (WRONG) from 43 to 53
        Due.is("MINUTES later", x.all(0), 33);
        Due.is("WRONG later", x.all(2), 2);
        x.does(0);
        x.change(0, 2, 1);
        Due.is("those that are WRONG already, too", x.all(2), 3);
        x.set(1, 8);
        Due.is("THE BAG lacks for one", x.all(1), 3);
        ScrewLeft y = new ScrewLeft();
        for (int i = 0; i < 8; i++) {
            y.step(0, 0, (1 << i) - 1);
        }
        Due.is("eight STEPS", y.all(0), 8);
        Due.is("all of eight STEPS", y.all(1), 0);
        Due.is("all(-1)", x.all(-1), Due.BEYOND);
        Due.is("all(3)", x.all(3), Due.BEYOND);
    }

    private static void allBeyondTheLastMinute() {
        ScrewLeft x = new ScrewLeft();
        x.step(0, 9, 0);
        x.step(0, 9, 0);
        x.set(2, 99999);
        Due.is("MINUTES beyond", x.all(0), 38);
        Due.is("not DONE", x.all(1), 0);
        Due.is("order(-1) beyond", x.order(-1), 38);
        Due.is("MINUTE is as it was", x.count(5), 99999);
    }

    /** By t*s the STEP with most SCREWS gains most by being ahead. */
    private static void order() {
        ScrewLeft x = new ScrewLeft();
        Due.is("nothing is open", x.order(-1), 0);
        Due.is("there is no place", x.order(0), Due.NONE);
        Due.text(x, 0, "9+s*t");
        x.step(0, 1, 0);
        x.step(0, 5, 0);
        x.step(0, 9, 0);
        x.set(2, 21);
        // 2: 9 to 30; then 0: 10 to 40 and 1: 14, or 1 and 0, which is as long
        Due.is("MINUTES", x.order(-1), 9 + 10 + 14);
        Due.is("first", x.order(0), 2);
        Due.is("then", x.order(1), 0);
        Due.is("at last", x.order(2), 1);
        Due.is("no such place", x.order(3), Due.NONE);
        Due.is("nor this", x.order(4), Due.NONE);
        x.change(2, 1, 1);
        // 0: 9 to 30, 2: 18 to 48, 1: 14; or 1: 9, 0: 10, 2: 18; or 0, 1: 14, 2: 18
        Due.is("MINUTES, one needs another", x.order(-1), 9 + 10 + 18);
        Due.is("first then", x.order(0), 1);
        x.does(1);
        Due.is("of two that are open", x.order(0), 0);
        Due.is("the second", x.order(1), 2);
        Due.is("there is no third", x.order(2), Due.NONE);
    }

    private static void orderTakesTheFirstOfAlike() {
        ScrewLeft x = new ScrewLeft();
        for (int i = 0; i < 5; i++) {
            x.step(0, 0, 0);
        }
        Due.is("MINUTES of alike ones", x.order(-1), 5);
        for (int i = 0; i < 5; i++) {
            Due.is("alike ones by numbers", x.order(i), i);
        }
    }

    private static void orderErrors() {
        ScrewLeft x = new ScrewLeft();
        for (int i = 0; i < 6; i++) {
            x.step(i == 5 ? 60 : 0, 2, 0);
        }
        Due.is("order(-2)", x.order(-2), Due.BEYOND);
        Due.is("order(5)", x.order(5), Due.BEYOND);
        Due.is("six are open", x.order(-1), Due.STATE);
        x.does(0);
        Due.is("CARRIED by one", x.order(-1), Due.NONE);
        x.set(0, 2);
        Due.is("CARRIED by two", x.order(4), 5);
        x.set(1, 9);
        Due.is("THE BAG lacks one", x.order(-1), Due.NONE);
        x.set(1, 10);
        Due.is("THE BAG is enough", x.order(0), 1);
        Due.is("told(3)", x.told(3), 1);
    }

    private static ScrewLeft chain() {
        ScrewLeft x = new ScrewLeft();
        x.step(0, 1, 0);
        x.step(10, 1, 1);
        x.step(20, 1, 2);
        x.step(30, 1, 0);
        x.step(0, 1, 12);
        x.step(0, 1, 1);
        return x;
    }

    private static void under() {
        ScrewLeft x = chain();
        Due.is("not DONE", x.under(0), Due.STATE);
        Due.is("under(6)", x.under(6), Due.BEYOND);
        Due.is("under(-1)", x.under(-1), Due.BEYOND);
        for (int i = 0; i < 5; i++) {
            x.does(i);
        }
        Due.is("under(0), but for one that is open", x.under(0), 2 + 4 + 16);
        Due.is("under(1)", x.under(1), 4 + 16);
        Due.is("under(3)", x.under(3), 16);
        Due.is("under(4)", x.under(4), 0);
        x.does(5);
        Due.is("under(0)", x.under(0), 2 + 4 + 16 + 32);
        x.become(1, 0);
        x.undo(4);
        Due.is("under(0) without 4", x.under(0), 2 + 4 + 32);
        x.step(0, 0, 16);
        x.does(4);
        x.does(6);
        x.change(4, 1, 0);
        x.undo(6);
        x.undo(4);
        x.does(6);
        Due.is("one that is open hands nothing on", x.under(2), 0);
    }

    private static void goBack() {
        ScrewLeft x = chain();
        for (int i = 0; i < 5; i++) {
            x.does(i);
        }
        x.set(2, 0);
        // v is 2: back 4 (1), 2 (2), 1 (1), 0 (1), then 0 (2), 1 (3), 2 (4), 4 (2)
        Due.is("MINUTES to 0", x.goBack(0, 0), 5 + 11);
        Due.is("BLOCKED by glue between", x.goBack(0, 1), 1);
        Due.is("BLOCKED itself", x.goBack(2, 1), 1);
        Due.is("MINUTES to 3", x.goBack(3, 0), 1 + 4 + 4 + 2);
        Due.is("not BLOCKED", x.goBack(3, 1), 0);
        x.set(2, 26);
        // 4 (1), 3 (4) to 31, then TIRED by 1: 3 (6), 4 (3)
        Due.is("MINUTES while one tires", x.goBack(3, 0), 1 + 4 + 6 + 3);
        x.set(1, 0);
        Due.is("SCREWS don't matter", x.goBack(3, 0), 14);
        ScrewLeft y = new ScrewLeft();
        y.step(0, 1, 0);
        y.step(30, 1, 1);
        y.does(0);
        y.does(1);
        Due.is("MINUTES with the greatest number", y.goBack(0, 0), 4 + 1 + 2 + 4);
        x.become(2, 50);
        Due.is("BLOCKED by what is sealed", x.goBack(1, 1), 1);
        x.become(2, 0);
        Due.is("BLOCKED no more", x.goBack(0, 1), 0);
    }

    private static void goBackErrors() {
        ScrewLeft x = chain();
        Due.is("not DONE", x.goBack(0, 0), Due.STATE);
        Due.is("not DONE, BLOCKED", x.goBack(0, 1), Due.STATE);
        Due.is("goBack(0, 2)", x.goBack(0, 2), Due.BEYOND);
        Due.is("goBack(0, -1)", x.goBack(0, -1), Due.BEYOND);
        Due.is("goBack(6, 0)", x.goBack(6, 0), Due.BEYOND);
        Due.is("goBack(-1, 0)", x.goBack(-1, 0), Due.BEYOND);
    }

    private static void left() {
        ScrewLeft x = new ScrewLeft();
        x.step(0, 9, 0);
        x.step(0, 4, 0);
        Due.is("left()", x.left(), 37);
        x.does(0);
        Due.is("left() is no other by doing", x.left(), 37);
        x.undo(0);
        Due.is("one is stripped", x.left(), 36);
        x.set(1, 3);
        Due.is("they lack", x.left(), -10);
    }

    private static void whose() {
        ScrewLeft x = new ScrewLeft();
        int[] screws = {3, 0, 2, 5, 3};
        for (int s : screws) {
            x.step(0, s, 0);
        }
        Due.is("none is DONE", x.whose(0, 0), 1);
        Due.is("none is DONE, one screw", x.whose(3, 0), 0);
        Due.is("none is DONE, whose", x.whose(3, 1), Due.NONE);
        for (int i = 0; i < 4; i++) {
            x.does(i);
        }
        // 0 and 2, or 3, each with 1 or without
        Due.is("whose(5, 0)", x.whose(5, 0), 4);
        Due.is("whose(5, 1)", x.whose(5, 1), 5);
        Due.is("whose(0, 0)", x.whose(0, 0), 2);
        Due.is("whose(0, 1)", x.whose(0, 1), 0);
        Due.is("whose(10, 1)", x.whose(10, 1), 13);
        x.does(4);
        Due.is("all of them, and without the one that has none", x.whose(13, 0), 2);
        Due.is("the least of these", x.whose(13, 1), 29);
        Due.is("whose(99, 0)", x.whose(99, 0), 0);
        Due.is("whose(99, 1)", x.whose(99, 1), Due.NONE);
        Due.is("whose(-1, 0)", x.whose(-1, 0), Due.BEYOND);
        Due.is("whose(100, 1)", x.whose(100, 1), Due.BEYOND);
        Due.is("whose(0, 2)", x.whose(0, 2), Due.BEYOND);
        Due.is("whose(0, -1)", x.whose(0, -1), Due.BEYOND);
    }

    private static void lookAt() {
        ScrewLeft x = new ScrewLeft();
        x.step(0, 9, 0);
        x.step(0, 3, 0);
        x.step(0, 3, 0);
        x.step(20, 0, 0);
        Due.is("none is DONE", x.lookAt(), Due.NONE);
        for (int i = 0; i < 4; i++) {
            x.does(i);
        }
        Due.is("none is WRONG", x.lookAt(), Due.NONE);
        x.change(3, 2, 1);
        Due.is("the only one is BLOCKED", x.lookAt(), Due.NONE);
        x.change(0, 2, 1);
        Due.is("one is WRONG", x.lookAt(), 0);
        x.change(2, 2, 1);
        Due.is("fewest MINUTES", x.lookAt(), 2);
        x.change(1, 2, 1);
        Due.is("of several the least", x.lookAt(), 1);
        Due.is("told(2)", x.told(2), 3);
        x.change(0, 0, 1);
        Due.is("fewest MINUTES, by the first", x.lookAt(), 0);
    }

    private static ScrewLeft told(int... minutes) {
        ScrewLeft x = new ScrewLeft();
        x.step(0, 1, 0);
        x.step(10, 1, 0);
        x.step(0, 1, 1);
        x.step(0, 1, 0);
        x.sheet(2, 16, minutes.length);
        for (int i = 0; i < minutes.length; i++) {
            x.put(2, i, minutes[i]);
        }
        return x;
    }

    private static void orders() {
        // 0, 2, 3 last 2, and 1 lasts 3; 2 needs 0
        Due.is("one of 2", told(2).orders(2, 0), 2);
        Due.is("the first of them", told(2).orders(2, 1), 0);
        Due.is("one of 3", told(3).orders(2, 0), 1);
        Due.is("the first of them", told(3).orders(2, 1), 1);
        Due.is("2, 2", told(2, 2).orders(2, 0), 3);
        Due.is("3, 2, 2", told(3, 2, 2).orders(2, 0), 3);
        Due.is("3, 2, 2, 2", told(3, 2, 2, 2).orders(2, 0), 3);
        Due.is("2, 3, 2, 2", told(2, 3, 2, 2).orders(2, 0), 3);
        Due.is("2, 2, 2, 2", told(2, 2, 2, 2).orders(2, 0), 0);
        Due.is("2, 2, 2, 2, the first", told(2, 2, 2, 2).orders(2, 1), Due.NONE);
        Due.is("0", told(0).orders(2, 0), 0);
        ScrewLeft x = told(2, 3);
        x.does(0);
        Due.is("from now on", x.orders(2, 0), 2);
        Due.is("from now on, the first", x.orders(2, 1), 2);
        ScrewLeft y = told(2, 2);
        y.set(1, 1);
        Due.is("THE BAG lacks", y.orders(2, 0), 0);
        ScrewLeft z = told(2, 4);
        z.set(2, 28);
        Due.is("TIRED in between", z.orders(2, 0), 2);
        ScrewLeft w = told(3, 3);
        w.set(2, 28);
        Due.is("TIRED in between, BOARD first", w.orders(2, 1), 1);
    }

    private static void ordersErrors() {
        ScrewLeft x = told(2, 2, 2, 2, 2);
        Due.is("five numbers", x.orders(2, 0), Due.NONE);
        Due.is("no number", told().orders(2, 0), Due.NONE);
        Due.is("a missing SHEET", x.orders(0, 0), Due.NONE);
        Due.is("orders(-1, 0)", x.orders(-1, 0), Due.BEYOND);
        Due.is("orders(4, 0)", x.orders(4, 0), Due.BEYOND);
        Due.is("orders(0, 2)", x.orders(0, 2), Due.BEYOND);
        Due.is("orders(0, -1)", x.orders(0, -1), Due.BEYOND);
    }

    private static void odds() {
        ScrewLeft x = new ScrewLeft();
        int[][] byM = {{0, 1, 1}, {1, 9, 10}, {2, 4, 5}, {4, 3, 5}, {5, 1, 2}, {8, 1, 5}, {9, 1, 10}};
        for (int i = 0; i < byM.length; i++) {
            x.step(byM[i][0], 0, 0);
            Due.is("odds above with m " + byM[i][0], x.odds(i, 0), byM[i][1]);
            Due.is("odds below with m " + byM[i][0], x.odds(i, 1), byM[i][2]);
        }
        Due.text(x, 1, "1");
        Due.is("0 by 1, above", x.odds(0, 0), 0);
        Due.is("0 by 1, below", x.odds(0, 1), 1);
        Due.text(x, 1, "k=0&t<2");
        Due.is("by KIND, above", x.odds(0, 0), 4);
        x.become(0, 15);
        Due.is("by another KIND, above", x.odds(0, 0), 1);
        Due.is("odds(0, 2)", x.odds(0, 2), Due.BEYOND);
        Due.is("odds(0, -1)", x.odds(0, -1), Due.BEYOND);
        Due.is("odds(7, 0)", x.odds(7, 0), Due.BEYOND);
        Due.is("odds(-1, 0)", x.odds(-1, 0), Due.BEYOND);
    }

    private static void nothingOfItIsDone() {
        ScrewLeft x = told(2, 3);
        x.does(0);
        x.does(2);
        x.change(0, 2, 1);
        String before = Due.stateOf(x);
        x.next(0);
        x.all(0);
        x.order(-1);
        x.under(0);
        x.goBack(0, 0);
        x.left();
        x.whose(2, 1);
        x.lookAt();
        x.orders(2, 0);
        x.odds(0, 0);
        Due.holds("what is only thought changes nothing", before.equals(Due.stateOf(x)));
    }
}
