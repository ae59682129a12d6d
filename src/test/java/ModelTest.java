import java.util.Random;

/** Many runs of chance calls (always the same ones), each answer against the one of the Model. */
public final class ModelTest {
    private static final int RUNS = 400;
    private static final int CALLS = 512;

    private static final int[] met = new int[8];

    private final Random random;
    private final LentViews x = new LentViews();
    private final Model model = new Model();
    private final int run;
    private final boolean hasty;

    private ModelTest(int run) {
        this.run = run;
        this.random = new Random(1000L + run);
        this.hasty = run % 3 == 0;
    }

    public static void main(String[] args) {
        for (int run = 0; run < RUNS && Due.wrong() == 0; run++) {
            new ModelTest(run).play();
        }
        String[] names = {"lent photos", "false photos", "FULL acts", "undone", "back", "full SEEN", "one fits", "none fits"};
        for (int i = 0; i < met.length; i++) {
            Due.isTrue("the runs met " + names[i], met[i] > 20);
        }
        Due.end();
    }

    /** Mostly from low to high, at times just beside. */
    private int pick(int low, int high) {
        if (random.nextInt(40) == 0) {
            int[] odd = {low - 1, high + 1, Integer.MIN_VALUE, Integer.MAX_VALUE, -1};
            return odd[random.nextInt(odd.length)];
        }
        return low + random.nextInt(high - low + 1);
    }

    private void play() {
        if (random.nextInt(4) != 0) {
            begins();
        }
        for (int i = 0; i < CALLS && Due.wrong() == 0; i++) {
            int chance = random.nextInt(1000);
            if (chance < 520) act();
            else if (chance < 560) change(chance);
            else if (chance < 640) guess(chance);
            else look(random.nextInt(9));
        }
        met[0] += x.count(5);
        met[1] += x.count(6);
    }

    private void due(String call, int got, int want) {
        Due.is("run " + run + ": " + call, got, want);
    }

    private void begins() {
        int n = pick(2, 4), moves = pick(1, 4), wrap = pick(0, 8);
        due("begins(" + n + ", " + moves + ", " + wrap + ")", x.begins(n, moves, wrap), model.begins(n, moves, wrap));
    }

    private void act() {
        int n = x.count(0);
        int p = pick(0, n - 1);
        int idle = x.writer(p, 0);
        if (idle != 0 || random.nextInt(12) == 0) {
            int k = hasty ? pick(1, 20) : pick(1, 3);
            due("steps(" + p + ", " + k + ")", x.steps(p, k), model.steps(p, k));
        } else if (random.nextInt(4) == 0) {
            int answer = x.scans(p);
            due("scans(" + p + ")", answer, model.scans(p));
            if (answer == LentViews.FULL) met[2]++;
        } else {
            int v = random.nextBoolean() ? pick(0, 99) : random.nextInt(2);
            int answer = x.writes(p, v);
            due("writes(" + p + ", " + v + ")", answer, model.writes(p, v));
            if (answer == LentViews.FULL) met[2]++;
        }
    }

    private void change(int chance) {
        if (chance < 540) {
            int answer = x.undo();
            due("undo()", answer, model.undo());
            if (answer >= 0) met[3]++;
        } else if (chance < 544) {
            begins();
        } else if (chance < 553) {
            int image = pick(0, 1);
            due("keep(" + image + ")", x.keep(image), model.keep(image));
        } else {
            int image = pick(0, 1);
            int answer = x.back(image);
            due("back(" + image + ")", answer, model.back(image));
            if (answer >= 0) met[4]++;
        }
    }

    private void guess(int chance) {
        int a = pick(1, 4), b = pick(1, 4);
        if (chance < 590) {
            int told = x.trial(1 + random.nextInt(4), a, b);
            int reads = random.nextInt(6) == 0 ? pick(0, 99) : Math.max(0, told);
            int answer = x.sees(a, b, reads);
            due("sees(" + a + ", " + b + ", " + reads + ")", answer, model.sees(a, b, reads));
            if (answer == LentViews.FULL) met[5]++;
        } else if (chance < 605) {
            due("forget()", x.forget(), model.forget());
        } else if (chance < 620) {
            int moves = pick(1, 4);
            due("trial(" + moves + ", " + a + ", " + b + ")", x.trial(moves, a, b), model.trial(moves, a, b));
        } else {
            int fit = x.which();
            due("which()", fit, model.which());
            due("ask()", x.ask(), model.ask());
            if (fit == 0) met[7]++;
            if (Integer.bitCount(fit) == 1) met[6]++;
        }
    }

    private void look(int kind) {
        int n = x.count(0);
        int p = pick(0, n - 1), c = pick(0, n - 1), what;
        switch (kind) {
            case 0: what = pick(0, 5); due("cell(" + c + ", " + what + ")", x.cell(c, what), model.cell(c, what)); break;
            case 1: what = pick(0, 8); due("writer(" + p + ", " + what + ")", x.writer(p, what), model.writer(p, what)); break;
            case 2: what = pick(0, 1); due("read(" + p + ", " + c + ", " + what + ")", x.read(p, c, what), model.read(p, c, what)); break;
            case 3: lookAtPhotos(); break;
            case 4: due("lone(" + p + ")", x.lone(p), model.lone(p)); break;
            case 5: due("byTurns()", x.byTurns(), model.byTurns()); break;
            case 6: int r = pick(0, 30); what = pick(0, 2); due("reads(" + r + ", " + what + ")", x.reads(r, what), model.reads(r, what)); break;
            case 7: what = pick(0, 10); due("count(" + what + ")", x.count(what), model.count(what)); break;
            default: lookAtWriters(); break;
        }
    }

    private void lookAtPhotos() {
        int i = pick(0, Math.max(0, x.count(4) - 1));
        for (int what = -1; what <= 11; what++) {
            due("photo(" + i + ", " + what + ")", x.photo(i, what), model.photo(i, what));
        }
    }

    private void lookAtWriters() {
        for (int p = 0; p < 4; p++) {
            for (int what = 0; what <= 8; what++) {
                due("writer(" + p + ", " + what + ")", x.writer(p, what), model.writer(p, what));
            }
        }
    }
}
