/** Objects as they may be in the midst of a run, for tests that try a call in each of them. */
enum States {
    NEW, SMALL, WIDE, ALL_BUSY, ALL_FULL;

    LentViews make() {
        LentViews x = new LentViews();
        switch (this) {
            case SMALL: makeSmall(x); break;
            case WIDE: makeWide(x); break;
            case ALL_BUSY: makeAllBusy(x); break;
            case ALL_FULL: makeAllFull(x); break;
            default: break;
        }
        return x;
    }

    /** Two cells; all idle; versions have wrapped; one photo was lent. */
    private static void makeSmall(LentViews x) {
        x.begins(2, 1, 2);
        x.scans(0);
        x.steps(0, 2);
        x.writes(1, 99);
        x.steps(1, 20);
        x.steps(0, 20);
        x.writes(1, 98);
        x.steps(1, 20);
        x.sees(1, 3, 6);
        x.keep(0);
    }

    /** Four cells; all idle; each was written; what was SEEN leaves two. */
    private static void makeWide(LentViews x) {
        x.begins(4, 4, 8);
        for (int p = 0; p < 4; p++) {
            x.writes(p, 40 + p);
            x.steps(p, 20);
        }
        x.keep(1);
        x.sees(1, 2, 16);
        x.sees(1, 1, 8);
    }

    /** Three cells; every writer has an act: within its first collect, with moves seen, and with its photo. */
    private static void makeAllBusy(LentViews x) {
        x.begins(3, 3, 0);
        x.scans(0);
        x.steps(0, 4);
        x.writes(1, 11);
        x.steps(1, 20);
        x.keep(0);
        x.steps(0, 3);
        x.writes(1, 12);
        x.steps(1, 6);
        x.keep(1);
        x.writes(2, 13);
        x.steps(2, 1);
    }

    /** 24 acts begun, six SEEN that leave two, both images kept, five that can be undone; writer 0 has an act. */
    private static void makeAllFull(LentViews x) {
        x.begins(2, 2, 0);
        for (int i = 0; i < 22; i++) {
            x.writes(1, i);
            x.steps(1, 20);
        }
        x.keep(0);
        x.scans(1);
        x.steps(1, 3);
        x.keep(1);
        x.steps(1, 1);
        x.writes(0, 77);
        x.steps(0, 2);
        for (int i = 0; i < 6; i++) {
            x.sees(1, 2, 8);
        }
    }
}
