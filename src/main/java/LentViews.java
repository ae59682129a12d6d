import java.util.Arrays;

/** Photographs of cells that others write meanwhile, as ../shared/DOC.md promises them. */
public final class LentViews {
    public static final int BAD = -1, STATE = -2, FULL = -3, NONE = -9;

    private static final int LEAST_CELLS = 2;
    private static final int MOST_CELLS = 4;
    private static final int FIRST_CELLS = 3;
    private static final int MOST_MOVES = 4;
    private static final int FIRST_MOVES = 2;
    private static final int LEAST_WRAP = 2;
    private static final int MOST_WRAP = 8;
    private static final int MOST_VALUE = 99;
    private static final int MOST_STEPS = 20;
    private static final int MOST_ACTS = 24;
    private static final int MOST_READS = 99;
    private static final int MOST_PACE = 4;
    private static final int MOST_SEEN = 6;
    private static final int MOST_UNDONE = 5;
    private static final int IMAGES = 2;

    private static final int IDLE = 0;
    private static final int SCAN = 1;
    private static final int WRITING = 2;

    // No act can need more: MOVES and the 24 acts keep each one under a hundred steps.
    private static final int STEPS_BOUND = 1000;

    private final World now;
    // Where lone, byTurns and trials are played, so that nothing is changed.
    private final World stage;
    private final World[] past;
    private int pastNext;
    private int pastKnown;
    private final World[] images;
    private final boolean[] kept;
    private final int[] seenA;
    private final int[] seenB;
    private final int[] seenReads;
    private int seenCount;
    // Made once: ask() fills it for each of its questions anew.
    private final int[] readsByMoves;

    public LentViews() {
        now = new World();
        stage = new World();
        past = new World[MOST_UNDONE];
        for (int i = 0; i < MOST_UNDONE; i++) {
            past[i] = new World();
        }
        images = new World[IMAGES];
        for (int i = 0; i < IMAGES; i++) {
            images[i] = new World();
        }
        kept = new boolean[IMAGES];
        seenA = new int[MOST_SEEN];
        seenB = new int[MOST_SEEN];
        seenReads = new int[MOST_SEEN];
        readsByMoves = new int[MOST_MOVES];
        now.restart(FIRST_CELLS, FIRST_MOVES, 0);
    }

    // ---- what is done

    public int begins(int n, int moves, int wrap) {
        if (!isWithin(n, LEAST_CELLS, MOST_CELLS) || !isWithin(moves, 1, MOST_MOVES) || !isWrap(wrap)) {
            return BAD;
        }
        remember();
        now.restart(n, moves, wrap);
        seenCount = 0;
        for (int i = 0; i < IMAGES; i++) {
            kept[i] = false;
        }
        return n;
    }

    public int scans(int p) {
        if (!now.has(p)) {
            return BAD;
        }
        return beginAct(p, SCAN, NONE);
    }

    public int writes(int p, int v) {
        if (!now.has(p) || !isWithin(v, 0, MOST_VALUE)) {
            return BAD;
        }
        return beginAct(p, WRITING, v);
    }

    public int steps(int p, int k) {
        if (!now.has(p) || !isWithin(k, 1, MOST_STEPS)) {
            return BAD;
        }
        if (now.isIdle(p)) {
            return STATE;
        }
        remember();
        return now.stepUpTo(p, k);
    }

    public int undo() {
        if (pastKnown == 0) {
            return STATE;
        }
        pastNext = pastNext == 0 ? MOST_UNDONE - 1 : pastNext - 1;
        pastKnown--;
        now.copyFrom(past[pastNext]);
        return pastKnown;
    }

    // ---- as it is

    public int cell(int c, int what) {
        if (!now.has(c) || !isWithin(what, 0, 5)) {
            return BAD;
        }
        switch (what) {
            case 0: return now.cells.values[c];
            case 1: return now.cells.versions[c];
            default: return now.cells.views[c * MOST_CELLS + what - 2];
        }
    }

    public int writer(int p, int what) {
        if (!now.has(p) || !isWithin(what, 0, 8)) {
            return BAD;
        }
        Act act = now.acts[p];
        switch (what) {
            case 0: return act.kind;
            case 1: return act.stepsDone;
            case 2: return act.isReading() ? act.nextCell : NONE;
            case 3: return act.collects;
            case 8: return act.toWrite;
            default: return act.moved[what - 4];
        }
    }

    public int read(int p, int c, int what) {
        if (!now.has(p) || !now.has(c) || !isWithin(what, 0, 1)) {
            return BAD;
        }
        Act act = now.acts[p];
        if (!act.isReading() || c >= act.nextCell) {
            return NONE;
        }
        return what == 0 ? act.reading.values[c] : act.reading.versions[c];
    }

    public int photo(int i, int what) {
        if (!isWithin(i, 0, now.album.size - 1) || !isWithin(what, 0, Album.FACTS - 1)) {
            return BAD;
        }
        return now.album.fact(i, what);
    }

    // ---- what comes

    public int lone(int p) {
        if (!now.has(p)) {
            return BAD;
        }
        stage.copyFrom(now);
        return stage.stepUpTo(p, STEPS_BOUND);
    }

    public int byTurns() {
        stage.copyFrom(now);
        int total = 0;
        for (int turn = 0; turn < STEPS_BOUND && !stage.allIdle(); turn++) {
            for (int p = 0; p < stage.n; p++) {
                total += stage.stepUpTo(p, 1);
            }
        }
        return total;
    }

    public int reads(int x, int what) {
        if (!isWithin(x, 0, MOST_READS) || !isWithin(what, 0, 2)) {
            return BAD;
        }
        switch (what) {
            case 0: return now.album.countWith(Album.READS, x);
            case 1: return now.album.leastReadsAbove(x);
            default: return now.album.greatestReadsBelow(x);
        }
    }

    public int trial(int moves, int a, int b) {
        if (!isWithin(moves, 1, MOST_MOVES) || !isPace(a) || !isPace(b)) {
            return BAD;
        }
        return readsOfTrial(moves, a, b);
    }

    // ---- after how many moves

    public int sees(int a, int b, int x) {
        if (!isPace(a) || !isPace(b) || !isWithin(x, 0, MOST_READS)) {
            return BAD;
        }
        if (seenCount >= MOST_SEEN) {
            return FULL;
        }
        seenA[seenCount] = a;
        seenB[seenCount] = b;
        seenReads[seenCount] = x;
        seenCount++;
        return seenCount;
    }

    public int forget() {
        int was = seenCount;
        seenCount = 0;
        return was;
    }

    public int which() {
        return movesThatFit();
    }

    public int ask() {
        int fitting = movesThatFit();
        if (Integer.bitCount(fitting) <= 1) {
            return NONE;
        }
        int best = NONE;
        int bestAlike = MOST_MOVES + 1;
        for (int a = 1; a <= MOST_PACE; a++) {
            for (int b = 1; b <= MOST_PACE; b++) {
                int alike = mostAlike(fitting, a, b);
                if (alike < bestAlike) {
                    bestAlike = alike;
                    best = 10 * a + b;
                }
            }
        }
        return best;
    }

    // ---- images

    public int keep(int image) {
        if (!isWithin(image, 0, IMAGES - 1)) {
            return BAD;
        }
        images[image].copyFrom(now);
        kept[image] = true;
        return now.time;
    }

    public int back(int image) {
        if (!isWithin(image, 0, IMAGES - 1)) {
            return BAD;
        }
        if (!kept[image]) {
            return STATE;
        }
        now.copyFrom(images[image]);
        pastKnown = 0;
        return now.time;
    }

    public int count(int what) {
        switch (what) {
            case 0: return now.n;
            case 1: return now.moves;
            case 2: return now.wrap;
            case 3: return now.time;
            case 4: return now.album.size;
            case 5: return now.album.size - now.album.countWith(Album.LENT_BY, NONE);
            case 6: return now.album.countWith(Album.MOMENT, NONE);
            case 7: return now.idleBits();
            case 8: return now.actsBegun;
            case 9: return seenCount;
            case 10: return pastKnown;
            default: return BAD;
        }
    }

    private static boolean isWithin(int number, int least, int most) {
        return number >= least && number <= most;
    }

    private static boolean isWrap(int wrap) {
        return wrap == 0 || isWithin(wrap, LEAST_WRAP, MOST_WRAP);
    }

    private static boolean isPace(int number) {
        return isWithin(number, 1, MOST_PACE);
    }

    /** Called ahead of each change that can be undone; the oldest of five gives way. */
    private void remember() {
        past[pastNext].copyFrom(now);
        pastNext = pastNext == MOST_UNDONE - 1 ? 0 : pastNext + 1;
        pastKnown = Math.min(pastKnown + 1, MOST_UNDONE);
    }

    private int beginAct(int p, int kind, int value) {
        if (!now.isIdle(p)) {
            return STATE;
        }
        if (now.actsBegun >= MOST_ACTS) {
            return FULL;
        }
        remember();
        now.beginAct(p, kind, value);
        return now.time;
    }

    private int readsOfTrial(int moves, int a, int b) {
        stage.restart(now.n, moves, now.wrap);
        stage.beginAct(0, SCAN, NONE);
        int value = 1;
        stage.beginAct(1, WRITING, value);
        int reads = 0;
        for (int round = 0; round < STEPS_BOUND && !stage.isIdle(0); round++) {
            for (int i = 0; i < a && !stage.isIdle(0); i++) {
                stage.stepOnce(0);
                reads++;
            }
            for (int i = 0; i < b; i++) {
                stage.stepOnce(1);
                if (stage.isIdle(1)) {
                    value++;
                    stage.beginAct(1, WRITING, value);
                }
            }
        }
        return reads;
    }

    private int movesThatFit() {
        int bits = 0;
        for (int moves = 1; moves <= MOST_MOVES; moves++) {
            if (fitsAllSeen(moves)) {
                bits |= 1 << (moves - 1);
            }
        }
        return bits;
    }

    private boolean fitsAllSeen(int moves) {
        for (int i = 0; i < seenCount; i++) {
            if (readsOfTrial(moves, seenA[i], seenB[i]) != seenReads[i]) {
                return false;
            }
        }
        return true;
    }

    /** How many of the fitting MOVES the least telling answer to a, b would leave. */
    private int mostAlike(int fitting, int a, int b) {
        for (int moves = 1; moves <= MOST_MOVES; moves++) {
            readsByMoves[moves - 1] = isIn(fitting, moves) ? readsOfTrial(moves, a, b) : NONE;
        }
        int most = 0;
        for (int i = 0; i < MOST_MOVES; i++) {
            if (readsByMoves[i] != NONE) {
                most = Math.max(most, countAlike(readsByMoves[i]));
            }
        }
        return most;
    }

    private int countAlike(int reads) {
        int alike = 0;
        for (int i = 0; i < MOST_MOVES; i++) {
            if (readsByMoves[i] == reads) {
                alike++;
            }
        }
        return alike;
    }

    private static boolean isIn(int bits, int moves) {
        return (bits >> (moves - 1) & 1) == 1;
    }

    private static void copyAll(int[] from, int[] to) {
        System.arraycopy(from, 0, to, 0, Math.min(from.length, to.length));
    }

    /** VALUES, VERSIONS and VIEWS: of the cells themselves, or as a collect has read them. */
    private static final class Cells {
        final int[] values = new int[MOST_CELLS];
        final int[] versions = new int[MOST_CELLS];
        final int[] views = new int[MOST_CELLS * MOST_CELLS];

        void clear() {
            Arrays.fill(values, 0);
            Arrays.fill(versions, 0);
            Arrays.fill(views, 0);
        }

        void copyFrom(Cells other) {
            copyAll(other.values, values);
            copyAll(other.versions, versions);
            copyAll(other.views, views);
        }

        void copyOne(Cells other, int c) {
            values[c] = other.values[c];
            versions[c] = other.versions[c];
            System.arraycopy(other.views, c * MOST_CELLS, views, c * MOST_CELLS, MOST_CELLS);
        }
    }

    /** What one writer is about; the fields of an idle one are as its answers are due. */
    private static final class Act {
        int kind;
        int toWrite;
        int began;
        int stepsDone;
        int nextCell;
        int collects;
        boolean hasPhoto;
        int lentBy;
        final int[] photoValues = new int[MOST_CELLS];
        final int[] moved = new int[MOST_CELLS];
        // Of the collect ahead only the versions are ever asked for.
        final int[] versionsAhead = new int[MOST_CELLS];
        final Cells reading = new Cells();

        void become(int newKind, int value, int time) {
            kind = newKind;
            toWrite = value;
            began = time;
            stepsDone = 0;
            nextCell = 0;
            collects = 0;
            hasPhoto = false;
            lentBy = NONE;
            Arrays.fill(photoValues, 0);
            Arrays.fill(moved, 0);
            Arrays.fill(versionsAhead, 0);
            reading.clear();
        }

        boolean isReading() {
            return kind != IDLE && !hasPhoto;
        }

        void copyFrom(Act other) {
            kind = other.kind;
            toWrite = other.toWrite;
            began = other.began;
            stepsDone = other.stepsDone;
            nextCell = other.nextCell;
            collects = other.collects;
            hasPhoto = other.hasPhoto;
            lentBy = other.lentBy;
            copyAll(other.photoValues, photoValues);
            copyAll(other.moved, moved);
            copyAll(other.versionsAhead, versionsAhead);
            reading.copyFrom(other.reading);
        }

        void readOne(Cells cells) {
            reading.copyOne(cells, nextCell);
            nextCell++;
        }

        void endCollect(int n, int moves) {
            nextCell = 0;
            collects++;
            if (collects > 1) {
                boolean anyMoved = countMoves(n);
                int lender = lowestMoved(n, moves);
                if (!anyMoved) {
                    takePhoto(reading.values, 0, NONE);
                } else if (lender != NONE) {
                    takePhoto(reading.views, lender * MOST_CELLS, lender);
                }
            }
            copyAll(reading.versions, versionsAhead);
        }

        private boolean countMoves(int n) {
            boolean anyMoved = false;
            for (int c = 0; c < n; c++) {
                if (reading.versions[c] != versionsAhead[c]) {
                    anyMoved = true;
                    moved[c]++;
                }
            }
            return anyMoved;
        }

        private int lowestMoved(int n, int moves) {
            for (int c = 0; c < n; c++) {
                if (moved[c] >= moves) {
                    return c;
                }
            }
            return NONE;
        }

        private void takePhoto(int[] from, int start, int lender) {
            System.arraycopy(from, start, photoValues, 0, MOST_CELLS);
            lentBy = lender;
            hasPhoto = true;
        }
    }

    /** The photos, a row of eleven facts each, in the order in which photo() tells them. */
    private static final class Album {
        static final int FACTS = 11;
        static final int BY_WHOM = 0;
        static final int BEGAN = 1;
        static final int ENDED = 2;
        static final int READS = 3;
        static final int LENT_BY = 4;
        static final int WAS_WRITING = 5;
        static final int FIRST_VALUE = 6;
        static final int MOMENT = 10;

        int size;
        final int[] facts = new int[MOST_ACTS * FACTS];

        void copyFrom(Album other) {
            size = other.size;
            System.arraycopy(other.facts, 0, facts, 0, size * FACTS);
        }

        int fact(int i, int what) {
            return facts[i * FACTS + what];
        }

        void add(int p, Act act, int ended, int moment) {
            if (size >= MOST_ACTS) {
                return;
            }
            int row = size * FACTS;
            facts[row + BY_WHOM] = p;
            facts[row + BEGAN] = act.began;
            facts[row + ENDED] = ended;
            facts[row + READS] = act.stepsDone;
            facts[row + LENT_BY] = act.lentBy;
            facts[row + WAS_WRITING] = act.kind == WRITING ? 1 : 0;
            System.arraycopy(act.photoValues, 0, facts, row + FIRST_VALUE, MOST_CELLS);
            facts[row + MOMENT] = moment;
            size++;
        }

        int countWith(int what, int number) {
            int found = 0;
            for (int i = 0; i < size; i++) {
                if (fact(i, what) == number) {
                    found++;
                }
            }
            return found;
        }

        int leastReadsAbove(int x) {
            int least = NONE;
            for (int i = 0; i < size; i++) {
                int reads = fact(i, READS);
                if (reads > x && (least == NONE || reads < least)) {
                    least = reads;
                }
            }
            return least;
        }

        int greatestReadsBelow(int x) {
            int greatest = NONE;
            for (int i = 0; i < size; i++) {
                int reads = fact(i, READS);
                if (reads < x && (greatest == NONE || reads > greatest)) {
                    greatest = reads;
                }
            }
            return greatest;
        }
    }

    /** Which value was written where and when: by it the cells of any past moment are known. */
    private static final class History {
        int size;
        final int[] times = new int[MOST_ACTS];
        final int[] places = new int[MOST_ACTS];
        final int[] written = new int[MOST_ACTS];
        private final int[] valuesThen = new int[MOST_CELLS];

        void copyFrom(History other) {
            size = other.size;
            System.arraycopy(other.times, 0, times, 0, size);
            System.arraycopy(other.places, 0, places, 0, size);
            System.arraycopy(other.written, 0, written, 0, size);
        }

        void add(int time, int place, int value) {
            if (size >= MOST_ACTS) {
                return;
            }
            times[size] = time;
            places[size] = place;
            written[size] = value;
            size++;
        }

        /** The least time from began until now at which the cells had just these values. */
        int momentOf(int[] photoValues, int began) {
            Arrays.fill(valuesThen, 0);
            int i = 0;
            while (i < size && times[i] <= began) {
                valuesThen[places[i]] = written[i];
                i++;
            }
            if (wereAs(photoValues)) {
                return began;
            }
            for (; i < size; i++) {
                valuesThen[places[i]] = written[i];
                if (wereAs(photoValues)) {
                    return times[i];
                }
            }
            return NONE;
        }

        private boolean wereAs(int[] photoValues) {
            for (int c = 0; c < MOST_CELLS; c++) {
                if (valuesThen[c] != photoValues[c]) {
                    return false;
                }
            }
            return true;
        }
    }

    /** All that part 1 of the document tells: what is undone, and what images keep. */
    private static final class World {
        int n;
        int moves;
        int wrap;
        int time;
        int actsBegun;
        final Cells cells = new Cells();
        final Act[] acts = new Act[MOST_CELLS];
        final Album album = new Album();
        final History history = new History();

        World() {
            for (int p = 0; p < MOST_CELLS; p++) {
                acts[p] = new Act();
            }
        }

        void restart(int newN, int newMoves, int newWrap) {
            n = newN;
            moves = newMoves;
            wrap = newWrap;
            time = 0;
            actsBegun = 0;
            cells.clear();
            for (int p = 0; p < MOST_CELLS; p++) {
                acts[p].become(IDLE, NONE, 0);
            }
            album.size = 0;
            history.size = 0;
        }

        void copyFrom(World other) {
            n = other.n;
            moves = other.moves;
            wrap = other.wrap;
            time = other.time;
            actsBegun = other.actsBegun;
            cells.copyFrom(other.cells);
            for (int p = 0; p < MOST_CELLS; p++) {
                acts[p].copyFrom(other.acts[p]);
            }
            album.copyFrom(other.album);
            history.copyFrom(other.history);
        }

        /** Cells and writers are numbered alike: one test serves for both. */
        boolean has(int number) {
            return number >= 0 && number < n;
        }

        boolean isIdle(int p) {
            return acts[p].kind == IDLE;
        }

        boolean allIdle() {
            for (int p = 0; p < n; p++) {
                if (!isIdle(p)) {
                    return false;
                }
            }
            return true;
        }

        int idleBits() {
            int bits = 0;
            for (int p = 0; p < n; p++) {
                if (isIdle(p)) {
                    bits |= 1 << p;
                }
            }
            return bits;
        }

        void beginAct(int p, int kind, int value) {
            acts[p].become(kind, value, time);
            actsBegun++;
        }

        /** As many steps as told, or fewer if the writer is idle before: how many. */
        int stepUpTo(int p, int most) {
            int done = 0;
            while (done < most && !isIdle(p)) {
                stepOnce(p);
                done++;
            }
            return done;
        }

        void stepOnce(int p) {
            Act act = acts[p];
            time++;
            act.stepsDone++;
            if (act.hasPhoto) {
                writeOut(p, act);
                act.become(IDLE, NONE, 0);
                return;
            }
            act.readOne(cells);
            if (act.nextCell < n) {
                return;
            }
            act.endCollect(n, moves);
            if (act.hasPhoto) {
                album.add(p, act, time, history.momentOf(act.photoValues, act.began));
            }
            if (act.hasPhoto && act.kind == SCAN) {
                act.become(IDLE, NONE, 0);
            }
        }

        private void writeOut(int p, Act act) {
            cells.values[p] = act.toWrite;
            cells.versions[p] = versionBehind(cells.versions[p]);
            System.arraycopy(act.photoValues, 0, cells.views, p * MOST_CELLS, MOST_CELLS);
            history.add(time, p, act.toWrite);
        }

        private int versionBehind(int version) {
            return wrap == 0 ? version + 1 : (version + 1) % wrap;
        }
    }
}
