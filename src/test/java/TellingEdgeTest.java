/** The boundary cases of what is told: promises 7 to 13, and MOMENT, LONE, TURNS, TIMES of part 2. Each method is of one sentence. */
public final class TellingEdgeTest {
    public static void main(String[] args) {
        viewOfACellThatThereIsNot();
        movedOfACellThatThereIsNot();
        photoOfACellThatThereIsNot();
        theCellThatItReadsNext();
        theValueThatItIsToWrite();
        noughtIfItIsIdle();
        readInTheCollectThatIsNotWhole();
        lentByNone();
        momentFromBegan();
        momentUntilEnded();
        theLeastMoment();
        allCellsHadJustTheValues();
        loneOfOneThatIsIdle();
        turnsWhereAllAreIdle();
        whoBecomesIdleIsLeftOut();
        readsAboveAndBelow();
        countOfNoneAndAll();
        Due.end();
    }

    /** "2 to 5 VALUES of its VIEW (0 of one that there is not)". */
    private static void viewOfACellThatThereIsNot() {
        String wide = "begins(4,1,0)=4 writes(3,33)=0 steps(3,20)=9 writes(2,22)=9 steps(2,20)=9 writes(1,11)=18 steps(1,20)=9 writes(0,10)=27 steps(0,20)=9 cell(0,4)=22 cell(0,5)=33 ";
        Script.run("view of 2", wide, "begins(2,1,0)=2 cell(0,4)=0 cell(0,5)=0 writes(0,7)=0 steps(0,20)=5 writes(1,8)=5 steps(1,20)=5 writes(0,9)=10 steps(0,20)=5 cell(0,2)=7 cell(0,3)=8 cell(0,4)=0 cell(0,5)=0 cell(0,6)=BAD cell(0,1)=2");
        Script.run("view of 3", wide, "begins(3,1,0)=3 writes(2,7)=0 steps(2,20)=7 writes(0,8)=7 steps(0,20)=7 cell(0,2)=0 cell(0,4)=7 cell(0,5)=0 cell(0,6)=BAD");
        Script.run("view of 4: there are all", wide, "writes(0,1)=36 steps(0,20)=9 cell(0,2)=10 cell(0,3)=11 cell(0,4)=22 cell(0,5)=33 cell(0,6)=BAD cell(0,-1)=BAD");
    }

    /** "4 to 7 how often CELLS 0 to 3 MOVED (0 of one that there is not)". */
    private static void movedOfACellThatThereIsNot() {
        String wide = "begins(4,4,0)=4 scans(0)=0 steps(0,4)=4 writes(3,1)=4 steps(3,20)=9 writes(2,1)=13 steps(2,20)=9 steps(0,4)=4 writer(0,6)=1 writer(0,7)=1 ";
        Script.run("moves of 2", wide, "begins(2,4,0)=2 writer(0,6)=0 writer(0,7)=0 scans(0)=0 steps(0,2)=2 writes(1,5)=2 steps(1,20)=5 steps(0,2)=2 writer(0,4)=0 writer(0,5)=1 writer(0,6)=0 writer(0,7)=0 writer(0,9)=BAD");
        Script.run("moves of 3", wide, "begins(3,4,0)=3 scans(0)=0 steps(0,3)=3 writes(2,5)=3 steps(2,20)=7 steps(0,3)=3 writer(0,4)=0 writer(0,5)=0 writer(0,6)=1 writer(0,7)=0");
    }

    /** "6 to 9 VALUES (0 of a CELL that there is not)". */
    private static void photoOfACellThatThereIsNot() {
        String wide = "begins(4,1,0)=4 writes(3,33)=0 steps(3,20)=9 writes(2,22)=9 steps(2,20)=9 scans(0)=18 steps(0,20)=8 photo(2,8)=22 photo(2,9)=33 ";
        Script.run("photo of 2", wide, "begins(2,1,0)=2 scans(0)=0 steps(0,20)=4 writes(1,5)=4 steps(1,20)=5 scans(0)=9 steps(0,20)=4 photo(0,8)=0 photo(0,9)=0 photo(2,7)=5 photo(2,8)=0 photo(2,9)=0 photo(2,10)=9 photo(2,11)=BAD");
        Script.run("photo of 2, lent", wide, "begins(2,1,0)=2 scans(0)=0 steps(0,2)=2 writes(1,5)=2 steps(1,20)=5 steps(0,2)=2 photo(1,4)=1 photo(1,8)=0 photo(1,9)=0 photo(1,10)=0");
        Script.run("photo of 3", wide, "begins(3,1,0)=3 writes(2,5)=0 steps(2,20)=7 scans(0)=7 steps(0,20)=6 photo(1,8)=5 photo(1,9)=0 photo(1,10)=7");
    }

    /** "2 the CELL that it reads next (NONE: it reads none)". */
    private static void theCellThatItReadsNext() {
        Script.run("next", "writer(2,2)=NONE writes(2,5)=0 writer(2,2)=0 steps(2,2)=2 writer(2,2)=2 steps(2,1)=1 writer(2,2)=0 steps(2,2)=2 writer(2,2)=2 steps(2,1)=1 writer(2,2)=NONE steps(2,1)=1 writer(2,2)=NONE",
            "scans(2)=7 writer(2,2)=0 steps(2,5)=5 writer(2,2)=2 steps(2,1)=1 writer(2,2)=NONE");
        Script.run("next, behind a collect that has not agreed", "begins(2,2,0)=2 scans(0)=0 steps(0,2)=2 writes(1,1)=2 steps(1,20)=5 steps(0,2)=2 writer(0,2)=0 steps(0,1)=1 writer(0,2)=1");
    }

    /** "8 the VALUE that it is to write (NONE)". */
    private static void theValueThatItIsToWrite() {
        Script.run("to write", "writer(0,8)=NONE scans(0)=0 writer(0,8)=NONE steps(0,20)=6 writes(0,0)=6 writer(0,8)=0 steps(0,6)=6 writer(0,8)=0 steps(0,1)=1 writer(0,8)=NONE writes(0,99)=13 writer(0,8)=99 undo()=4 writer(0,8)=NONE");
    }

    /** "(1, 3 to 7 are 0, if it is idle.)" */
    private static void noughtIfItIsIdle() {
        String moved = "begins(4,2,0)=4 scans(0)=0 steps(0,4)=4 writes(1,1)=4 steps(1,20)=9 writes(2,1)=13 steps(2,20)=9 writes(3,1)=22 steps(3,20)=9 steps(0,4)=4 writer(0,1)=8 writer(0,3)=2 writer(0,5)=1 writer(0,6)=1 writer(0,7)=1 ";
        String idle = "writer(0,0)=0 writer(0,1)=0 writer(0,2)=NONE writer(0,3)=0 writer(0,4)=0 writer(0,5)=0 writer(0,6)=0 writer(0,7)=0 writer(0,8)=NONE ";
        Script.run("idle behind a scan that agreed", moved, "steps(0,4)=4 count(5)=0 " + idle);
        Script.run("idle behind one that was lent", moved, "writes(3,2)=35 steps(3,20)=9 steps(0,4)=4 count(5)=1 " + idle);
        Script.run("idle behind a writing", moved.replace("scans(0)=0", "writes(0,9)=0"), "steps(0,4)=4 writer(0,0)=2 writer(0,1)=12 writer(0,3)=3 writer(0,5)=1 steps(0,1)=1 " + idle);
    }

    /** "What a WRITER has read of a CELL in the COLLECT that is not whole yet .. NONE: it has not (also if it is idle, or has its PHOTO)." */
    private static void readInTheCollectThatIsNotWhole() {
        for (int n = 2; n <= 4; n++) {
            StringBuilder run = new StringBuilder("begins(" + n + ",1,0)=" + n + " ");
            for (int p = 0; p < n; p++) {
                run.append("writes(").append(p).append(",").append(60 + p).append(")=").append(p * (2 * n + 1)).append(" steps(").append(p).append(",20)=").append(2 * n + 1).append(" ");
            }
            run.append(reads(0, n, 0)).append("writes(0,9)=").append(n * (2 * n + 1)).append(" ").append(reads(0, n, 0));
            for (int step = 1; step <= 2 * n; step++) {
                run.append("steps(0,1)=1 ").append(reads(0, n, step % n));
            }
            Script.run("read, of " + n, run.toString(), "writer(0,0)=2 steps(0,1)=1 writer(0,0)=0 " + reads(0, n, 0), "read(0," + n + ",0)=BAD read(" + n + ",0,0)=BAD read(0,0,2)=BAD read(0,0,-1)=BAD");
        }
        Script.run("read: a scan behind its photo is idle", "begins(2,1,0)=2 scans(1)=0 steps(1,3)=3 read(1,0,1)=0 steps(1,1)=1 read(1,0,0)=NONE read(1,0,1)=NONE read(1,1,0)=NONE read(0,0,0)=NONE");
    }

    private static String reads(int p, int n, int known) {
        StringBuilder calls = new StringBuilder();
        for (int c = 0; c < n; c++) {
            calls.append("read(").append(p).append(",").append(c).append(",0)=").append(c < known ? "" + (60 + c) : "NONE").append(" ");
            calls.append("read(").append(p).append(",").append(c).append(",1)=").append(c < known ? "1" : "NONE").append(" ");
        }
        return calls.toString();
    }

    /** "4 the CELL by which it was LENT (NONE: none)": also CELL 0, and the last one. */
    private static void lentByNone() {
        Script.run("lent by 0", "begins(2,1,0)=2 scans(1)=0 steps(1,2)=2 writes(0,5)=2 steps(0,20)=5 steps(1,2)=2 photo(0,4)=NONE photo(1,4)=0 count(5)=1 count(4)=2");
        Script.run("lent by the last", "begins(4,1,0)=4 scans(0)=0 steps(0,4)=4 writes(3,5)=4 steps(3,20)=9 steps(0,4)=4 photo(0,4)=NONE photo(1,4)=3 count(5)=1 count(4)=2");
    }

    /** "the least t, from BEGAN": BEGAN itself counts, a step ahead of it does not. */
    private static void momentFromBegan() {
        String ahead = "begins(3,1,0)=3 writes(1,5)=0 steps(1,6)=6 writes(0,3)=6 steps(0,6)=6 ";
        String behind = "steps(2,3)=3 steps(1,1)=1 steps(2,3)=3 photo(2,0)=2 photo(2,4)=1 photo(2,6)=0 photo(2,7)=0 photo(2,8)=0 ";
        Script.run("so until BEGAN, and no longer", ahead + "scans(2)=12 steps(0,1)=1 " + behind, "photo(2,1)=12 photo(2,10)=12 count(6)=0");
        Script.run("so until one step ahead of BEGAN", ahead + "steps(0,1)=1 scans(2)=13 " + behind, "photo(2,1)=13 photo(2,10)=NONE count(6)=1");
        Script.run("so from BEGAN on, not ahead", "begins(2,1,0)=2 writes(1,5)=0 steps(1,20)=5 scans(0)=5 steps(0,20)=4 photo(1,1)=5 photo(1,7)=5 photo(1,10)=5");
        Script.run("BEGAN of 0", "scans(0)=0 steps(0,20)=6 photo(0,1)=0 photo(0,10)=0");
        Script.run("MOMENT is not ahead of BEGAN, though the cells were so then, too",
            "begins(2,1,0)=2 scans(0)=0 steps(0,20)=4 scans(0)=4 steps(0,20)=4 photo(1,1)=4 photo(1,10)=4 writes(1,5)=8 steps(1,20)=5 writes(1,0)=13 steps(1,20)=5 scans(0)=18 steps(0,20)=4 photo(4,1)=18 photo(4,10)=18");
    }

    /** "to ENDED": the last write that a photo can have seen is a step ahead; what comes behind does not count. */
    private static void momentUntilEnded() {
        Script.run("so as late as can be", "begins(2,1,2)=2 scans(0)=0 steps(0,3)=3 writes(1,5)=3 steps(1,20)=5 writes(1,6)=8 steps(1,20)=5 steps(0,1)=1 photo(2,0)=0 photo(2,2)=14 photo(2,7)=6 photo(2,10)=13");
        Script.run("so behind ENDED alone: FALSE it was, and stays",
            "begins(3,2,2)=3 scans(2)=0 steps(2,4)=4 writes(0,1)=4 steps(0,20)=7 writes(1,1)=11 steps(1,20)=7 writes(1,2)=18 steps(1,20)=7 steps(2,20)=2 photo(3,2)=27 photo(3,10)=NONE count(6)=1",
            "writes(0,0)=27 steps(0,20)=7 cell(0,0)=0 cell(1,0)=2 cell(2,0)=0 photo(3,6)=0 photo(3,7)=2 photo(3,8)=0 photo(3,10)=NONE count(6)=1");
    }

    /** "the least t" of several. */
    private static void theLeastMoment() {
        Script.run("so at BEGAN and again later", "begins(2,1,2)=2 scans(0)=0 steps(0,3)=3 writes(1,5)=3 steps(1,20)=5 writes(1,0)=8 steps(1,20)=5 steps(0,1)=1 photo(2,7)=0 photo(2,10)=0");
        Script.run("so within and again later",
            "begins(2,1,4)=2 scans(0)=0 steps(0,3)=3 writes(1,5)=3 steps(1,20)=5 writes(1,6)=8 steps(1,20)=5 writes(1,7)=13 steps(1,20)=5 writes(1,5)=18 steps(1,20)=5 steps(0,1)=1 photo(4,0)=0 photo(4,4)=NONE photo(4,7)=5 photo(4,10)=8");
    }

    /** "all CELLS had just the VALUES that it has; NONE: it is FALSE": one cell that is not so is enough. */
    private static void allCellsHadJustTheValues() {
        String[] runs = {
            "begins(4,4,2)=4 scans(3)=0 steps(3,5)=5 writes(0,1)=5 steps(0,20)=9 writes(1,1)=14 steps(1,20)=9 writes(1,2)=23 steps(1,20)=9 steps(3,20)=3 photo(3,6)=0 photo(3,7)=2 photo(3,8)=0 photo(3,9)=0 ",
            "begins(4,4,2)=4 scans(3)=0 steps(3,6)=6 writes(1,1)=6 steps(1,20)=9 writes(2,1)=15 steps(2,20)=9 writes(2,2)=24 steps(2,20)=9 steps(3,20)=2 photo(3,6)=0 photo(3,7)=0 photo(3,8)=2 photo(3,9)=0 ",
            "begins(4,4,2)=4 scans(0)=0 steps(0,7)=7 writes(2,1)=7 steps(2,20)=9 writes(3,1)=16 steps(3,20)=9 writes(3,2)=25 steps(3,20)=9 steps(0,20)=1 photo(3,6)=0 photo(3,7)=0 photo(3,8)=0 photo(3,9)=2 "};
        for (String run : runs) {
            Script.run("one cell was never so with the others", run, "photo(3,4)=NONE photo(3,10)=NONE count(6)=1 count(4)=4");
        }
        Script.run("the same with a value that the cell had all along",
            "begins(4,4,2)=4 scans(3)=0 steps(3,5)=5 writes(0,0)=5 steps(0,20)=9 writes(1,1)=14 steps(1,20)=9 writes(1,2)=23 steps(1,20)=9 steps(3,20)=3 photo(3,7)=2 photo(3,10)=32 count(6)=0");
    }

    /** "LONE .. (0: it is idle)": idle, with its photo, from the start, and the most. */
    private static void loneOfOneThatIsIdle() {
        for (int n = 2; n <= 4; n++) {
            Script.run("lone of " + n, "begins(" + n + ",2,0)=" + n + " lone(0)=0 lone(" + (n - 1) + ")=0 lone(" + n + ")=BAD scans(0)=0 lone(0)=" + 2 * n + " lone(1)=0 steps(0," + (2 * n - 1) + ")=" + (2 * n - 1) + " lone(0)=1 steps(0,1)=1 lone(0)=0",
                "writes(0,1)=" + 2 * n + " lone(0)=" + (2 * n + 1) + " steps(0," + 2 * n + ")=" + 2 * n + " lone(0)=1 steps(0,1)=1 lone(0)=0");
        }
        Script.run("the longest of a scan and of a writing", "begins(4,2,0)=4 scans(3)=0 writes(2,8)=0 steps(3,1)=1 steps(2,1)=1 writes(0,5)=2 steps(0,20)=9 lone(3)=11 lone(2)=12 lone(0)=0 lone(1)=0");
        Script.run("the same, lent behind one move", "begins(4,1,0)=4 scans(3)=0 writes(2,8)=0 steps(3,1)=1 steps(2,1)=1 writes(0,5)=2 steps(0,20)=9 lone(3)=7 lone(2)=8");
    }

    /** "TURNS: how many STEPS all together have yet till all are idle": none, one, all of them. */
    private static void turnsWhereAllAreIdle() {
        for (int n = 2; n <= 4; n++) {
            StringBuilder scans = new StringBuilder("begins(" + n + ",1,0)=" + n + " byTurns()=0 ");
            StringBuilder writes = new StringBuilder(scans);
            for (int p = n - 1; p >= 0; p--) {
                scans.append("scans(").append(p).append(")=0 byTurns()=").append((n - p) * 2 * n).append(" ");
                writes.append("writes(").append(p).append(",9)=0 byTurns()=").append((n - p) * (2 * n + 1)).append(" ");
            }
            Script.run("all of " + n + " scan", scans.toString(), "count(7)=0 count(3)=0");
            Script.run("all of " + n + " write", writes.toString(), "count(7)=0 count(3)=0 cell(0,0)=0");
        }
        Script.run("one step is left", "scans(2)=0 steps(2,5)=5 byTurns()=1 steps(2,1)=1 byTurns()=0");
    }

    /** "those that have an ACT doing one each by turns, by numbers, again and again (who becomes idle is left out)". */
    private static void whoBecomesIdleIsLeftOut() {
        Script.run("the first is idle behind one step", "begins(2,2,0)=2 scans(0)=0 steps(0,3)=3 scans(1)=3 byTurns()=5");
        Script.run("the last is idle behind one step", "begins(2,2,0)=2 scans(1)=0 steps(1,3)=3 scans(0)=3 byTurns()=5");
        Script.run("one that is idle begins nothing, another goes on alone", "begins(4,2,0)=4 scans(1)=0 scans(3)=0 steps(1,7)=7 byTurns()=9 lone(0)=0 lone(3)=8");
        Script.run("one each, not more", "begins(2,3,0)=2 writes(0,5)=0 steps(0,3)=3 scans(1)=3 byTurns()=8");
        // Writer 1 writes in the first turn: behind the second step of 0 if 0 is first, as it is by numbers.
        Script.run("by numbers: the lower one reads ahead of the higher one's write", "begins(2,3,0)=2 writes(1,5)=0 steps(1,4)=4 scans(0)=4 steps(0,1)=1 byTurns()=6");
        Script.run("by numbers: the higher one reads behind the lower one's write", "begins(2,3,0)=2 writes(0,5)=0 steps(0,4)=4 scans(1)=4 byTurns()=5 steps(1,1)=1 byTurns()=6");
    }

    /** "the least READS above x that a PHOTO has, NEXT BELOW likewise; NONE", "BAD (x 0 .. 99)". */
    private static void readsAboveAndBelow() {
        Script.run("no photo", "reads(0,0)=0 reads(99,0)=0 reads(0,1)=NONE reads(99,1)=NONE reads(0,2)=NONE reads(99,2)=NONE scans(0)=0 steps(0,5)=5 reads(5,0)=0 reads(0,1)=NONE reads(99,2)=NONE");
        Script.run("one photo: x itself is neither above nor below", "scans(0)=0 steps(0,20)=6 reads(6,0)=1 reads(5,0)=0 reads(7,0)=0 reads(5,1)=6 reads(6,1)=NONE reads(7,1)=NONE reads(7,2)=6 reads(6,2)=NONE reads(5,2)=NONE",
            "reads(0,1)=6 reads(99,2)=6 reads(0,2)=NONE reads(99,1)=NONE reads(100,0)=BAD reads(100,2)=BAD reads(-1,1)=BAD reads(-1,0)=BAD reads(6,3)=BAD reads(6,-1)=BAD");
        Script.run("three that differ, the middle one taken last",
            "begins(2,4,0)=2 scans(0)=0 steps(0,20)=4 scans(0)=4 steps(0,2)=2 writes(1,1)=6 steps(1,20)=5 steps(0,2)=2 writes(1,2)=13 steps(1,20)=5 steps(0,20)=4 scans(0)=22 steps(0,2)=2 writes(1,3)=24 steps(1,20)=5 steps(0,20)=4",
            "reads(4,0)=4 reads(6,0)=1 reads(8,0)=1 reads(0,1)=4 reads(4,1)=6 reads(5,1)=6 reads(6,1)=8 reads(8,1)=NONE reads(99,2)=8 reads(8,2)=6 reads(7,2)=6 reads(6,2)=4 reads(4,2)=NONE");
    }

    /** "4 PHOTOS, 5 of these LENT ones, 6 FALSE ones, 7 WRITERS that are idle (bits)": none and all. */
    private static void countOfNoneAndAll() {
        Script.run("none idle, all idle", "begins(4,2,0)=4 count(7)=15 scans(0)=0 count(7)=14 scans(1)=0 count(7)=12 scans(2)=0 count(7)=8 scans(3)=0 count(7)=0 steps(3,20)=8 count(7)=8 steps(0,20)=8 count(7)=9 steps(1,20)=8 steps(2,20)=8 count(7)=15");
        Script.run("a writer that has its photo is not idle", "writes(1,1)=0 steps(1,6)=6 count(7)=5 steps(1,1)=1 count(7)=7");
        Script.run("numbers of count", "count(-1)=BAD count(11)=BAD count(LEAST)=BAD count(MOST)=BAD count(0)=3 count(10)=0");
        Script.run("all photos of scans are LENT and FALSE: by one whose view is old",
            "begins(3,1,0)=3 writes(1,5)=0 steps(1,6)=6 writes(0,3)=6 steps(0,7)=7 scans(0)=13 scans(2)=13 steps(0,3)=3 steps(2,3)=3 steps(1,1)=1 steps(0,3)=3 steps(2,3)=3 count(4)=4 count(5)=2 count(6)=2 photo(2,10)=NONE photo(3,10)=NONE photo(2,4)=1 photo(3,4)=1");
    }
}
