import java.util.Random;

/** Long runs of calls of all kinds, each answer held against the model's; the seeds make every run the same. */
public final class ModelTest {
    private static final int RUNS = 400, CALLS = 512;
    private static final int[] WILD = {Integer.MIN_VALUE, Integer.MAX_VALUE, -1, 1 << 30, -1000000};

    private final Random random;
    private final int run;
    private final InkPress x = new InkPress();
    private final Model model = new Model();

    private ModelTest(int run) {
        this.run = run;
        random = new Random(run);
    }

    public static void main(String[] args) {
        for (int run = 0; run < RUNS && Due.wrongSoFar() == 0; run++) {
            new ModelTest(run).play();
        }
        Due.end();
    }

    private void play() {
        // Each run leans to one part of the document, so that its state gets deep.
        int leaning = random.nextInt(5);
        for (int i = 0; i < CALLS; i++) {
            int part = leaning < 4 && random.nextInt(4) > 0 ? leaning : random.nextInt(4);
            switch (part) {
                case 0: callPress(); break;
                case 1: callSteering(); break;
                case 2: callMarks(); break;
                default: callJobs(); break;
            }
        }
    }

    /** Mostly from low to high, at times just beyond, seldom far beyond. */
    private int some(int low, int high) {
        int dice = random.nextInt(60);
        if (dice == 0) {
            return WILD[random.nextInt(WILD.length)];
        }
        if (dice < 4) {
            return random.nextBoolean() ? low - 1 : high + 1;
        }
        if (dice < 12) {
            return random.nextBoolean() ? low : high;
        }
        return low + random.nextInt(high - low + 1);
    }

    private void due(String call, long got, long want) {
        Due.is("run " + run + ": " + call, got, want);
    }

    private void callPress() {
        int dice = random.nextInt(100);
        if (dice < 2) {
            int n = some(2, 8);
            int r = some(2, 5);
            due("press " + n + " " + r, x.press(n, r), model.press(n, r));
        } else if (dice < 15) {
            int which = some(0, 8);
            int[] most = {20, 90, 40, 90, 200, 100, 500, 50, 20};
            int v = which >= 0 && which <= 8 ? some(which == 2 || which == 6 ? 0 : 1, most[which]) : some(0, 20);
            due("rule " + which + " " + v, x.rule(which, v), model.rule(which, v));
        } else if (dice < 35) {
            int z = some(0, 7);
            int what = some(0, 2);
            int v = some(0, what == 2 && random.nextInt(3) == 0 ? 1000 : 100);
            due("set " + z + " " + what + " " + v, x.set(z, what, v), model.set(z, what, v));
        } else if (dice < 55) {
            int z = some(0, 7);
            int what = some(0, 3);
            due("zone " + z + " " + what, x.zone(z, what), model.zone(z, what));
        } else if (dice < 80) {
            int r = some(0, 4);
            int z = some(0, 7);
            due("ink " + r + " " + z, x.ink(r, z), model.ink(r, z));
        } else {
            int n = random.nextInt(4) == 0 ? some(1, 200) : some(1, 12);
            due("print " + n, x.print(n), model.print(n));
        }
    }

    private void callSteering() {
        int dice = random.nextInt(100);
        if (dice < 10) {
            boolean on = random.nextInt(4) > 0;
            due("steer " + on, x.steer(on), model.steer(on));
        } else if (dice < 20) {
            int sheet = some(1, 1 + (int) model.told(0));
            due("good " + sheet, x.good(sheet), model.good(sheet));
        } else if (dice < 30) {
            int sheet = some(1, 1 + (int) model.told(0));
            int z = some(0, 7);
            due("density " + sheet + " " + z, x.density(sheet, z), model.density(sheet, z));
        } else if (dice < 40) {
            int cover = some(0, 100);
            int key = some(0, 100);
            due("past " + cover + " " + key, x.past(cover, key), model.past(cover, key));
        } else if (dice < 55) {
            int cover = some(0, 100);
            due("preset " + cover, x.preset(cover), model.preset(cover));
        } else if (dice < 60) {
            due("presets", x.presets(), model.presets());
        } else if (dice < 80) {
            int what = some(0, 9);
            due("told " + what, x.told(what), model.told(what));
        } else if (dice < 85) {
            int v = some(100, 500);
            due("rule 6 " + v, x.rule(6, v), model.rule(6, v));
        } else {
            int n = some(1, 9);
            due("print " + n, x.print(n), model.print(n));
        }
    }

    private void callMarks() {
        int dice = random.nextInt(100);
        if (dice < 30) {
            int far = random.nextBoolean() ? 1000 : 2;
            int ax = some(-far, far);
            int ay = some(-far, far);
            int dx = some(-100, 100);
            int dy = some(-100, 100);
            due("mark " + ax + " " + ay + " " + dx + " " + dy, x.mark(ax, ay, dx, dy), model.mark(ax, ay, dx, dy));
        } else if (dice < 36) {
            due("clear", x.clear(), model.clear());
        } else if (dice < 68) {
            int which = some(0, 3);
            int part = some(0, 1);
            due("fit " + which + " " + part, x.fit(which, part), model.fit(which, part));
        } else {
            int i = some(0, 7);
            int way = some(0, 1);
            due("off " + i + " " + way, x.off(i, way), model.off(i, way));
        }
    }

    private void callJobs() {
        int dice = random.nextInt(100);
        if (dice < 35) {
            int colour = some(0, 3);
            int paper = some(0, 5);
            due("job " + colour + " " + paper, x.job(colour, paper), model.job(colour, paper));
        } else if (dice < 42) {
            due("forget", x.forget(), model.forget());
        } else if (dice < 70) {
            int from = some(0, 3);
            int to = some(0, 3);
            int cost = random.nextBoolean() ? some(0, 100) : 5 * some(0, 4);
            due("wash " + from + " " + to + " " + cost, x.wash(from, to, cost), model.wash(from, to, cost));
        } else if (dice < 80) {
            due("order", x.order(), model.order());
        } else {
            int i = some(0, 6);
            due("orderAt " + i, x.orderAt(i), model.orderAt(i));
        }
    }
}
