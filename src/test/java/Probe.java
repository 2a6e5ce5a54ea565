/** Two objects with the same Probe are the same in all that the document lets be asked, but for told(). */
final class Probe {
    private final ScrewLeft x;
    private final StringBuilder seen = new StringBuilder();

    private Probe(ScrewLeft x) {
        this.x = x;
    }

    /** Uses the object up: what only an act shows (bytes, numbers that wait, SHEETS) is read by acts. */
    static String of(ScrewLeft x) {
        Probe probe = new Probe(x);
        probe.steps();
        probe.trace();
        probe.bytesAndNumbers(0);
        probe.sheets();
        probe.see(x.restore());
        probe.steps();
        probe.bytesAndNumbers(1);
        probe.see(x.image());
        return probe.seen.toString();
    }

    /**
     * A state (of 5 STEPS or more) in which every act has something to change; the IMAGE is another than what is now.
     * The numbers that wait are so, in both, so that check() tells if one of them has changed.
     */
    static ScrewLeft rich(int steps) {
        ScrewLeft x = new ScrewLeft();
        int[][] all = {{4, 3, 0}, {13, 9, 1}, {25, 2, 2}, {32, 4, 0}, {47, 1, 3}, {50, 6, 8}, {68, 5, 4}, {2, 0, 64}};
        for (int i = 0; i < 3; i++) {
            x.step(all[i][0], all[i][1], all[i][2]);
        }
        Due.text(x, 0, "2*s+t");
        Due.text(x, 1, "m>5");
        Due.feed(x, "m+t*2");
        x.does(0);
        x.tell(25);
        x.tell(31);
        x.image();
        for (int i = 3; i < steps; i++) {
            x.step(all[i][0], all[i][1], all[i][2]);
        }
        Due.text(x, 0, "s+m/2+t");
        Due.text(x, 1, "m+t>8");
        Due.feed(x, "m*t+3");
        x.set(1, 90);
        x.set(2, 20);
        x.does(1);
        x.does(3);
        x.change(1, 2, 1);
        x.check();
        x.tell(64);
        x.tell(70);
        x.seed(77);
        x.voice(1, 3, 5);
        Edge.fill(x, 0, 8, 5, 4, 3);
        Edge.fill(x, 1, 16, 1, 2, 3, 4, 5, 6);
        x.sheet(2, 32, 40);
        x.put(2, 0, 9);
        x.put(2, 39, 8);
        return x;
    }

    private void see(int answer) {
        seen.append(answer).append(' ');
    }

    private void steps() {
        for (int what = 0; what <= 10; what++) {
            see(x.count(what));
        }
        int steps = x.count(0);
        for (int step = 0; step <= steps; step++) {
            for (int what = 0; what <= 9; what++) {
                see(x.ofStep(step, what));
            }
        }
        for (int i = 0; i < 3; i++) {
            see(x.law(0, i, 7 - i, 3 * i));
            see(x.law(1, 2 + i, 3 * i, i));
        }
    }

    private void trace() {
        int begun = x.count(9);
        for (int i = 0; i <= begun; i++) {
            see(x.trace(i));
        }
    }

    private void sheets() {
        for (int i = 0; i < 8; i++) {
            x.step(0, 0, 0);
        }
        for (int sheet = 0; sheet < 4; sheet++) {
            int length = length(sheet);
            see(length);
            for (int from = 0; from < length; from += 8) {
                x.move(sheet, from, sheet, 0, Math.min(8, length - from));
                see(x.screws(sheet));
                for (int step = 0; step < 8; step++) {
                    see(x.ofStep(step, 2));
                }
            }
            bits(sheet);
        }
    }

    /** By halves: a move of no numbers is refused behind the last place alone; -1: it is missing. */
    private int length(int sheet) {
        if (x.put(sheet, -1, 0) == Due.NONE) {
            return -1;
        }
        int least = 0;
        int most = 40;
        while (least < most) {
            int half = (least + most + 1) / 2;
            if (x.move(sheet, half, sheet, half, 0) == 0) {
                least = half;
            } else {
                most = half - 1;
            }
        }
        return least;
    }

    /** 256 is 0 in 8 bits alone, 65536 in 16, too. */
    private void bits(int sheet) {
        x.put(sheet, 0, 256);
        see(x.screws(sheet));
        x.put(sheet, 0, 65536);
        see(x.screws(sheet));
    }

    private void bytesAndNumbers(int use) {
        see(x.check());
        see(x.text(use));
        for (int i = 0; i < 3; i++) {
            see(x.law(use, i, 7 - i, 3 * i));
        }
    }
}
