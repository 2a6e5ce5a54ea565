/** Promises 32 to 37: image, restore, tell, check, count, told. */
public final class ImagesTest {
    public static void main(String[] args) {
        image();
        imageLeavesOut();
        imageStays();
        tell();
        check();
        checkIsThought();
        count();
        told();
        Due.end();
    }

    private static ScrewLeft manyThings() {
        ScrewLeft x = new ScrewLeft();
        x.step(4, 3, 0);
        x.step(13, 9, 1);
        x.step(32, 1, 0);
        Due.text(x, 0, "s+m");
        Due.text(x, 1, "t=0");
        Due.feed(x, "m+1");
        x.set(0, 2);
        x.set(1, 77);
        x.set(2, 10);
        x.does(0);
        x.does(2);
        x.tell(29);
        x.seed(9);
        x.voice(0, 3, 1);
        return x;
    }

    private static void image() {
        ScrewLeft x = manyThings();
        Due.is("restore() ahead of image()", x.restore(), Due.NONE);
        Due.is("image()", x.image(), 1);
        String before = Due.stateOf(x);
        x.step(0, 0, 0);
        x.become(0, 69);
        x.change(1, 0, 2);
        x.change(1, 1, 0);
        x.change(2, 2, 0);
        x.set(0, 1);
        x.undo(2);
        x.does(1);
        x.text(1);
        Due.text(x, 0, "9");
        Due.feed(x, "t+9*2");
        x.tell(3);
        x.check();
        x.tell(5);
        x.tell(6);
        x.loose(10);
        Due.holds("it is another", !before.equals(Due.stateOf(x)));
        Due.is("restore()", x.restore(), 20);
        Due.holds("all is as it was", before.equals(Due.stateOf(x)));
        Due.is("THE TAPE is as it was", x.text(1), 1);
        Due.is("its bytes, too", x.law(1, 0, 0, 0), 1);
        // 1 lasts 9 + 3 and, being a BOARD, 1; it is 20 now
        Due.is("the number that waits is as it was", x.check(), 1);
        x.restore();
        x.set(2, 16);
        Due.is("it is 29", x.check(), 0);
    }

    private static void imageLeavesOut() {
        ScrewLeft x = manyThings();
        x.sheet(0, 8, 3);
        x.put(0, 0, 5);
        x.image();
        x.voice(0, 0, 1);
        x.put(0, 0, 6);
        x.sheet(1, 16, 2);
        x.does(99);
        x.restore();
        Due.is("THE TRACE is the latest", x.count(9), 1);
        Due.is("SHEETS stay", x.judge(1) >= 0 ? 1 : 0, 1);
        x.screws(0);
        Due.is("their numbers, too", x.ofStep(0, 2), 6);
        Due.is("what is told stays", x.told(1), 1);
        Due.is("how often stays", x.image(), 2);
        Due.is("how often goes on", x.image(), 3);
        x.restore();
        Due.is("and on", x.image(), 4);
    }

    private static void imageStays() {
        ScrewLeft x = new ScrewLeft();
        x.set(2, 5);
        x.image();
        x.set(2, 6);
        Due.is("restore()", x.restore(), 5);
        x.set(2, 7);
        Due.is("restore() again", x.restore(), 5);
        x.set(2, 8);
        x.image();
        x.set(2, 9);
        Due.is("restore() the one in place", x.restore(), 8);
        x.step(0, 0, 0);
        x.restore();
        Due.is("the IMAGE is no part of it", x.count(0), 0);
    }

    private static void tell() {
        ScrewLeft x = new ScrewLeft();
        for (int i = 1; i <= 20; i++) {
            Due.is("tell", x.tell(-i), i);
        }
        Due.is("tell once more", x.tell(0), Due.FULL);
        Due.is("count(8)", x.count(8), 20);
        Due.is("told(4)", x.told(4), 1);
    }

    private static int check(ScrewLeft x, int... minutes) {
        for (int minute : minutes) {
            x.tell(minute);
        }
        int answer = x.check();
        Due.is("none waits then", x.count(8), 0);
        return answer;
    }

    private static void check() {
        ScrewLeft x = new ScrewLeft();
        x.step(0, 1, 0);
        x.step(60, 0, 0);
        x.step(10, 1, 1);
        x.set(2, 26);
        // 0 to 28, 2 to 31
        Due.is("none waits", check(x), 0);
        Due.is("one", check(x, 28), 0);
        Due.is("two", check(x, 28, 31), 0);
        Due.is("the first isn't", check(x, 27, 31), 1);
        Due.is("the second isn't", check(x, 28, 30), 2);
        Due.is("none MAY", check(x, 28, 31, 31), 3);
        x.set(0, 2);
        // 0 to 28, 1 to 29, 2 to 32
        Due.is("by two", check(x, 28, 29, 32), 0);
        x.set(2, 99999);
        Due.is("beyond the last MINUTE", check(x, 99999 + 11, 99999 + 21, 99999 + 33), 0);
        Due.is("without STEPS", check(new ScrewLeft(), 0), 1);
    }

    private static void checkIsThought() {
        ScrewLeft x = new ScrewLeft();
        x.step(9, 1, 0);
        x.set(2, 30);
        String before = Due.stateOf(x);
        Due.is("check()", check(x, 33), 0);
        Due.holds("nothing is DONE", before.equals(Due.stateOf(x)));
    }

    private static void count() {
        ScrewLeft x = manyThings();
        int[] want = {3, 2, 2, 73, 2, 20, 0, 3, 1, 4, 9};
        for (int what = 0; what < want.length; what++) {
            Due.is("count(" + what + ")", x.count(what), want[what]);
        }
        Due.is("count(11)", x.count(11), Due.BEYOND);
        Due.is("count(-1)", x.count(-1), Due.BEYOND);
        x.set(2, 99999);
        Due.is("TIRED by 9 at most", x.count(6), 9);
    }

    private static void told() {
        ScrewLeft x = new ScrewLeft();
        x.step(0, 0, 0);
        x.does(5);
        x.trace(0);
        x.trace(0);
        x.undo(0);
        x.undo(0);
        x.undo(0);
        for (int i = 0; i < 24; i++) {
            x.tell(0);
        }
        for (int i = 0; i < 5; i++) {
            x.as(0, 1);
        }
        for (int k = 1; k <= 5; k++) {
            Due.is("told(" + k + ")", x.told(k), k);
        }
        Due.is("told(0)", x.told(0), Due.BEYOND);
        Due.is("told(6)", x.told(6), Due.BEYOND);
        Due.is("told(-1)", x.told(-1), Due.BEYOND);
        Due.is("they are counted, too", x.told(1), 4);
        x.image();
        x.restore();
        Due.is("an IMAGE has none of it", x.told(5), 5);
    }
}
