/**
 * "BAD (a number is not as told, or there is no such thing)": for each number of each call the least and the
 * greatest that is taken, all between them, the ones beside, and the least and greatest int.
 */
public final class NumbersEdgeTest {
    private static final int LEAST = Integer.MIN_VALUE, MOST = Integer.MAX_VALUE;
    /** Those that a byte, a short or a lost sign would take for small ones. */
    private static final int[] FAR = {
        LEAST, LEAST + 1, LEAST + 2, MOST, MOST - 1, MOST - 2, 256, 257, 258, 65536, 65537, 65538, 1 << 24, 1 << 30, -65535, -65534, -255, -254};

    public static void main(String[] args) {
        whatIsDone();
        asItIs();
        whatComes();
        movesAndImages();
        Due.end();
    }

    private static void whatIsDone() {
        for (States state : States.values()) {
            numbers(state, "begins", 0, of(3, 2, 0), 2, 4);
            numbers(state, "begins", 1, of(3, 2, 0), 1, 4);
            numbersButOne(state, "begins", 2, of(3, 2, 0), 0, 8, 1);
        }
        for (States state : new States[] {States.NEW, States.SMALL, States.WIDE}) {
            int n = state.make().count(0);
            numbers(state, "scans", 0, of(0), 0, n - 1);
            numbers(state, "writes", 0, of(0, 5), 0, n - 1);
            numbers(state, "writes", 1, of(n - 1, 5), 0, 99);
        }
        numbers(States.ALL_BUSY, "steps", 0, of(0, 1), 0, 2);
        numbers(States.ALL_BUSY, "steps", 1, of(1, 1), 1, 20);
        numbers(States.ALL_FULL, "steps", 1, of(0, 1), 1, 20);
    }

    private static void asItIs() {
        for (States state : States.values()) {
            int n = state.make().count(0);
            numbers(state, "cell", 0, of(0, 0), 0, n - 1);
            numbers(state, "cell", 1, of(n - 1, 0), 0, 5);
            numbers(state, "writer", 0, of(0, 0), 0, n - 1);
            numbers(state, "writer", 1, of(n - 1, 0), 0, 8);
            numbers(state, "read", 0, of(0, 0, 0), 0, n - 1);
            numbers(state, "read", 1, of(0, 0, 0), 0, n - 1);
            numbers(state, "read", 2, of(n - 1, n - 1, 0), 0, 1);
            int photos = state.make().count(4);
            numbers(state, "photo", 0, of(0, 0), 0, photos - 1);
            if (photos > 0) {
                numbers(state, "photo", 1, of(0, 0), 0, 10);
                numbers(state, "photo", 1, of(photos - 1, 0), 0, 10);
            }
        }
    }

    private static void whatComes() {
        for (States state : States.values()) {
            int n = state.make().count(0);
            numbers(state, "lone", 0, of(0), 0, n - 1);
            numbers(state, "reads", 0, of(0, 0), 0, 99);
            numbers(state, "reads", 0, of(0, 1), 0, 99);
            numbers(state, "reads", 0, of(0, 2), 0, 99);
            numbers(state, "reads", 1, of(99, 0), 0, 2);
            numbers(state, "trial", 0, of(1, 1, 4), 1, 4);
            numbers(state, "trial", 1, of(1, 1, 4), 1, 4);
            numbers(state, "trial", 2, of(4, 4, 4), 1, 4);
        }
    }

    private static void movesAndImages() {
        for (States state : States.values()) {
            if (state != States.ALL_FULL) {
                numbers(state, "sees", 0, of(1, 1, 0), 1, 4);
                numbers(state, "sees", 1, of(1, 1, 0), 1, 4);
                numbers(state, "sees", 2, of(4, 4, 0), 0, 99);
            }
            numbers(state, "keep", 0, of(0), 0, 1);
            numbers(state, "count", 0, of(0), 0, 10);
        }
        numbers(States.ALL_BUSY, "back", 0, of(0), 0, 1);
        numbers(States.ALL_FULL, "back", 0, of(0), 0, 1);
    }

    private static int[] of(int... numbers) {
        return numbers;
    }

    private static void numbers(States state, String call, int which, int[] given, int least, int most) {
        numbersButOne(state, call, which, given, least, most, LEAST);
    }

    /** Of call, with the number at which in place of the given one: least to most are taken, but for one. */
    private static void numbersButOne(States state, String call, int which, int[] given, int least, int most, int butOne) {
        for (int number = -30; number <= 130; number++) {
            tryOne(state, call, which, given, number, number >= least && number <= most && number != butOne);
        }
        for (int number : FAR) {
            tryOne(state, call, which, given, number, false);
        }
        int[] beside = {least - 1, most + 1, LEAST, MOST, butOne};
        for (int number : beside) {
            LentViews x = state.make();
            int answer = Script.call(x, call, with(given, which, number));
            Due.is(told(state, call, which, number), answer, LentViews.BAD);
            Script.compareToTheEnd(told(state, call, which, number) + " changes nothing", x, state.make());
        }
    }

    private static void tryOne(States state, String call, int which, int[] given, int number, boolean taken) {
        LentViews x = state.make();
        int answer = Script.call(x, call, with(given, which, number));
        boolean refused = answer == LentViews.BAD || answer == LentViews.STATE || answer == LentViews.FULL;
        if (taken) {
            Due.isTrue(told(state, call, which, number) + " is taken", !refused);
        } else {
            Due.is(told(state, call, which, number), answer, LentViews.BAD);
        }
    }

    private static int[] with(int[] given, int which, int number) {
        int[] numbers = given.clone();
        numbers[which] = number;
        return numbers;
    }

    private static String told(States state, String call, int which, int number) {
        return state + ": " + call + "() by " + number + " as number " + which;
    }
}
