import java.util.ArrayList;
import java.util.List;

/**
 * A second telling of the document, slow and plain: it keeps the list of what was done and plays it
 * anew for each answer, so that it shares nothing with the way in which LentViews holds its state.
 */
final class Model {
    private static final int BAD = -1, STATE = -2, FULL = -3, NONE = -9;

    /** What was done since the object was made: {'b', n, moves, wrap}, {'s', p}, {'w', p, v}, {'t', p, k}. */
    private List<int[]> deeds = new ArrayList<>();
    private int undoable = 0;
    private final List<List<int[]>> images = new ArrayList<>();
    private final List<int[]> seen = new ArrayList<>();

    Model() {
        images.add(null);
        images.add(null);
    }

    private Play play() {
        Play play = new Play(3, 2, 0);
        for (int[] deed : deeds) {
            if (deed[0] == 'b') play = new Play(deed[1], deed[2], deed[3]);
            if (deed[0] == 's') play.begin(deed[1], false, NONE);
            if (deed[0] == 'w') play.begin(deed[1], true, deed[2]);
            if (deed[0] == 't') for (int i = 0; i < deed[2] && play.running[deed[1]] != null; i++) play.step(deed[1]);
        }
        return play;
    }

    private void doIt(int... deed) {
        deeds.add(deed);
        undoable = Math.min(5, undoable + 1);
    }

    private static boolean in(int x, int low, int high) {
        return low <= x && x <= high;
    }

    int begins(int n, int moves, int wrap) {
        if (!in(n, 2, 4) || !in(moves, 1, 4) || !in(wrap, 0, 8) || wrap == 1) return BAD;
        doIt('b', n, moves, wrap);
        seen.clear();
        images.set(0, null);
        images.set(1, null);
        return n;
    }

    int scans(int p) {
        Play play = play();
        if (!in(p, 0, play.n - 1)) return BAD;
        if (play.running[p] != null) return STATE;
        if (play.begun == 24) return FULL;
        doIt('s', p);
        return play.time();
    }

    int writes(int p, int v) {
        Play play = play();
        if (!in(p, 0, play.n - 1) || !in(v, 0, 99)) return BAD;
        if (play.running[p] != null) return STATE;
        if (play.begun == 24) return FULL;
        doIt('w', p, v);
        return play.time();
    }

    int steps(int p, int k) {
        Play play = play();
        if (!in(p, 0, play.n - 1) || !in(k, 1, 20)) return BAD;
        if (play.running[p] == null) return STATE;
        doIt('t', p, k);
        return play().time() - play.time();
    }

    int undo() {
        if (undoable == 0) return STATE;
        deeds.remove(deeds.size() - 1);
        return --undoable;
    }

    int cell(int c, int what) {
        Play play = play();
        if (!in(c, 0, play.n - 1) || !in(what, 0, 5)) return BAD;
        if (what == 0) return play.values()[c];
        if (what == 1) return play.versions[c];
        return what - 2 < play.n ? play.views[c][what - 2] : 0;
    }

    int writer(int p, int what) {
        Play play = play();
        if (!in(p, 0, play.n - 1) || !in(what, 0, 8)) return BAD;
        Deed deed = play.running[p];
        if (deed == null) return what == 2 || what == 8 ? NONE : 0;
        if (what == 0) return deed.writing ? 2 : 1;
        if (what == 1) return deed.readings.size();
        if (what == 2) return deed.photo == null ? deed.readings.size() % play.n : NONE;
        if (what == 3) return deed.readings.size() / play.n;
        if (what == 8) return deed.writing ? deed.value : NONE;
        return what - 4 < play.n ? deed.moved(what - 4, play.n) : 0;
    }

    int read(int p, int c, int what) {
        Play play = play();
        if (!in(p, 0, play.n - 1) || !in(c, 0, play.n - 1) || !in(what, 0, 1)) return BAD;
        Deed deed = play.running[p];
        if (deed == null || deed.photo != null) return NONE;
        int at = deed.readings.size() / play.n * play.n + c;
        return at < deed.readings.size() ? deed.readings.get(at)[what] : NONE;
    }

    int photo(int i, int what) {
        Play play = play();
        if (!in(i, 0, play.photos.size() - 1) || !in(what, 0, 10)) return BAD;
        Deed deed = play.photos.get(i);
        if (what == 0) return deed.by;
        if (what == 1) return deed.began;
        if (what == 2) return deed.ended;
        if (what == 3) return deed.readings.size();
        if (what == 4) return deed.lentBy;
        if (what == 5) return deed.writing ? 1 : 0;
        if (what == 10) return play.moment(deed);
        return what - 6 < play.n ? deed.photo[what - 6] : 0;
    }

    int lone(int p) {
        Play play = play();
        if (!in(p, 0, play.n - 1)) return BAD;
        int before = play.time();
        while (play.running[p] != null) play.step(p);
        return play.time() - before;
    }

    int byTurns() {
        Play play = play();
        int before = play.time();
        for (boolean again = true; again; ) {
            again = false;
            for (int p = 0; p < play.n; p++) {
                if (play.running[p] != null) {
                    play.step(p);
                    again = true;
                }
            }
        }
        return play.time() - before;
    }

    int reads(int x, int what) {
        if (!in(x, 0, 99) || !in(what, 0, 2)) return BAD;
        List<Integer> all = new ArrayList<>();
        for (Deed deed : play().photos) all.add(deed.readings.size());
        if (what == 0) return (int) all.stream().filter(r -> r == x).count();
        if (what == 1) return all.stream().mapToInt(r -> r).filter(r -> r > x).min().orElse(NONE);
        return all.stream().mapToInt(r -> r).filter(r -> r < x).max().orElse(NONE);
    }

    int trial(int moves, int a, int b) {
        if (!in(moves, 1, 4) || !in(a, 1, 4) || !in(b, 1, 4)) return BAD;
        return tried(play(), moves, a, b);
    }

    private static int tried(Play as, int moves, int a, int b) {
        Play play = new Play(as.n, moves, as.wrap);
        play.begin(0, false, NONE);
        int value = 1;
        play.begin(1, true, value);
        for (int step = 0; true; step++) {
            boolean first = step % (a + b) < a;
            play.step(first ? 0 : 1);
            if (play.running[0] == null) return play.photos.get(play.photos.size() - 1).readings.size();
            if (play.running[1] == null) play.begin(1, true, ++value);
        }
    }

    int sees(int a, int b, int x) {
        if (!in(a, 1, 4) || !in(b, 1, 4) || !in(x, 0, 99)) return BAD;
        if (seen.size() == 6) return FULL;
        seen.add(new int[] {a, b, x});
        return seen.size();
    }

    int forget() {
        int was = seen.size();
        seen.clear();
        return was;
    }

    private List<Integer> fitting() {
        Play as = play();
        List<Integer> fit = new ArrayList<>(List.of(1, 2, 3, 4));
        fit.removeIf(m -> seen.stream().anyMatch(s -> tried(as, m, s[0], s[1]) != s[2]));
        return fit;
    }

    int which() {
        return fitting().stream().mapToInt(m -> 1 << (m - 1)).sum();
    }

    int ask() {
        Play as = play();
        List<Integer> fit = fitting();
        if (fit.size() < 2) return NONE;
        int bestGroup = 99;
        int best = NONE;
        for (int ab = 0; ab < 16; ab++) {
            int a = 1 + ab / 4;
            int b = 1 + ab % 4;
            int[] groups = new int[200];
            int group = 0;
            for (int m : fit) group = Math.max(group, ++groups[tried(as, m, a, b)]);
            if (group < bestGroup) {
                bestGroup = group;
                best = 10 * a + b;
            }
        }
        return best;
    }

    int keep(int image) {
        if (!in(image, 0, 1)) return BAD;
        images.set(image, new ArrayList<>(deeds));
        return play().time();
    }

    int back(int image) {
        if (!in(image, 0, 1)) return BAD;
        if (images.get(image) == null) return STATE;
        deeds = new ArrayList<>(images.get(image));
        undoable = 0;
        return play().time();
    }

    int count(int what) {
        Play play = play();
        switch (what) {
            case 0: return play.n;
            case 1: return play.moves;
            case 2: return play.wrap;
            case 3: return play.time();
            case 4: return play.photos.size();
            case 5: return (int) play.photos.stream().filter(d -> d.lentBy != NONE).count();
            case 6: return (int) play.photos.stream().filter(d -> play.moment(d) == NONE).count();
            case 7: {
                int bits = 0;
                for (int p = 0; p < play.n; p++) bits += play.running[p] == null ? 1 << p : 0;
                return bits;
            }
            case 8: return play.begun;
            case 9: return seen.size();
            case 10: return undoable;
            default: return BAD;
        }
    }

    /** An ACT with every reading that it ever had: {value, version, view..}. */
    private static final class Deed {
        int by;
        boolean writing;
        int value;
        int began;
        int ended;
        int lentBy = NONE;
        int[] photo;
        final List<int[]> readings = new ArrayList<>();

        int moved(int c, int n) {
            int moved = 0;
            int whole = readings.size() / n;
            for (int collect = 1; collect < whole; collect++) {
                if (readings.get(collect * n + c)[1] != readings.get((collect - 1) * n + c)[1]) moved++;
            }
            return moved;
        }
    }

    /** The cells and writers, with the values of every time that there was. */
    private static final class Play {
        final int n;
        final int moves;
        final int wrap;
        int begun = 0;
        final List<int[]> valuesAt = new ArrayList<>();
        final int[] versions;
        final int[][] views;
        final Deed[] running;
        final List<Deed> photos = new ArrayList<>();

        Play(int n, int moves, int wrap) {
            this.n = n;
            this.moves = moves;
            this.wrap = wrap;
            valuesAt.add(new int[n]);
            versions = new int[n];
            views = new int[n][n];
            running = new Deed[n];
        }

        int time() {
            return valuesAt.size() - 1;
        }

        int[] values() {
            return valuesAt.get(time());
        }

        void begin(int p, boolean writing, int value) {
            Deed deed = new Deed();
            deed.by = p;
            deed.writing = writing;
            deed.value = value;
            deed.began = time();
            running[p] = deed;
            begun++;
        }

        void step(int p) {
            Deed deed = running[p];
            int[] values = values().clone();
            if (deed.photo != null) {
                values[p] = deed.value;
                versions[p]++;
                if (versions[p] == wrap) versions[p] = 0;
                views[p] = deed.photo;
                running[p] = null;
                valuesAt.add(values);
                return;
            }
            valuesAt.add(values);
            int c = deed.readings.size() % n;
            int[] reading = new int[2 + n];
            reading[0] = values[c];
            reading[1] = versions[c];
            System.arraycopy(views[c], 0, reading, 2, n);
            deed.readings.add(reading);
            if (deed.readings.size() % n == 0 && deed.readings.size() > n) look(p, deed);
        }

        private void look(int p, Deed deed) {
            int from = deed.readings.size() - n;
            boolean still = true;
            int lender = NONE;
            for (int c = n - 1; c >= 0; c--) {
                if (deed.readings.get(from + c)[1] != deed.readings.get(from - n + c)[1]) still = false;
                if (deed.moved(c, n) >= moves) lender = c;
            }
            if (!still && lender == NONE) return;
            deed.photo = new int[n];
            for (int c = 0; c < n; c++) {
                deed.photo[c] = still ? deed.readings.get(from + c)[0] : deed.readings.get(from + lender)[2 + c];
            }
            deed.lentBy = still ? NONE : lender;
            deed.ended = time();
            photos.add(deed);
            if (!deed.writing) running[p] = null;
        }

        int moment(Deed deed) {
            for (int t = deed.began; t <= deed.ended; t++) {
                if (java.util.Arrays.equals(valuesAt.get(t), deed.photo)) return t;
            }
            return NONE;
        }
    }
}
