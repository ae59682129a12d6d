/**
 * "Refused, and nothing changes, the first of these that is so: BAD (a number is not as told, or there is no
 * such thing), STATE (as told), FULL." Script looks that each refused call changes nothing.
 */
public final class RefusalEdgeTest {
    /** 24 acts, the last of them writer 0's, that is not done: all that can be refused at once is. */
    private static final String FULL_OF_ACTS = fullOfActs();
    private static final String SIX_SEEN =
        "sees(1,2,8)=1 sees(1,2,8)=2 sees(1,2,8)=3 sees(1,2,8)=4 sees(1,2,8)=5 sees(1,2,8)=6 ";

    public static void main(String[] args) {
        badAheadOfState();
        badAheadOfFull();
        stateAheadOfFull();
        fullAlone();
        stateAlone();
        severalBadNumbers();
        nothingChangesWhereAllIsFull();
        refusedCallsAreNotKnownToUndo();
        refusedCallsLeaveTheRingOfFiveAlone();
        Due.end();
    }

    private static String fullOfActs() {
        StringBuilder acts = new StringBuilder("begins(2,1,0)=2 ");
        for (int i = 0; i < 23; i++) {
            acts.append("scans(1)=").append(4 * i).append(" steps(1,20)=4 ");
        }
        return acts.append("writes(0,7)=92 steps(0,2)=2 count(8)=24 ").toString();
    }

    private static void badAheadOfState() {
        Script.run("writes: BAD, though it is not idle", "scans(0)=0 writes(0,100)=BAD writes(0,-1)=BAD writes(0,LEAST)=BAD writes(0,MOST)=BAD writes(0,99)=STATE writes(0,0)=STATE");
        Script.run("steps: BAD, though it is idle", "steps(0,0)=BAD steps(0,21)=BAD steps(0,-1)=BAD steps(0,LEAST)=BAD steps(0,MOST)=BAD steps(0,1)=STATE steps(0,20)=STATE");
        Script.run("back: BAD, though none was kept", "back(-1)=BAD back(2)=BAD back(LEAST)=BAD back(MOST)=BAD back(0)=STATE back(1)=STATE");
    }

    private static void badAheadOfFull() {
        Script.run("scans: BAD, though 24 acts were begun", FULL_OF_ACTS, "scans(2)=BAD scans(-1)=BAD scans(MOST)=BAD scans(1)=FULL");
        Script.run("writes: BAD, though 24 acts were begun", FULL_OF_ACTS, "writes(2,0)=BAD writes(-1,0)=BAD writes(1,100)=BAD writes(1,-1)=BAD writes(1,99)=FULL writes(1,0)=FULL");
        Script.run("writes: BAD, though it is not idle and 24 acts were begun", FULL_OF_ACTS, "writes(0,100)=BAD writes(0,-1)=BAD");
        Script.run("sees: BAD, though six were SEEN", SIX_SEEN, "sees(0,1,6)=BAD sees(5,1,6)=BAD sees(1,0,6)=BAD sees(1,5,6)=BAD sees(1,1,-1)=BAD sees(1,1,100)=BAD sees(1,1,6)=FULL count(9)=6");
    }

    private static void stateAheadOfFull() {
        Script.run("scans: STATE, though 24 acts were begun", FULL_OF_ACTS, "scans(0)=STATE scans(1)=FULL");
        Script.run("writes: STATE, though 24 acts were begun", FULL_OF_ACTS, "writes(0,0)=STATE writes(0,99)=STATE writes(1,0)=FULL");
        Script.run("the same behind its photo, FULL as soon as it is idle", FULL_OF_ACTS,
            "steps(0,2)=2 writer(0,2)=NONE scans(0)=STATE writes(0,1)=STATE steps(0,1)=1 scans(0)=FULL writes(0,1)=FULL");
    }

    private static void fullAlone() {
        Script.run("FULL: nothing of the act is begun", FULL_OF_ACTS, "scans(1)=FULL writes(1,5)=FULL writer(1,0)=0 writer(1,8)=NONE count(8)=24 count(7)=2 count(10)=5");
        Script.run("sees: FULL, and what was SEEN is as it was, also by what would leave others", "begins(2,2,0)=2 " + SIX_SEEN,
            "which()=12 sees(1,4,4)=FULL sees(1,1,99)=FULL sees(4,4,0)=FULL which()=12 count(9)=6 forget()=6 which()=15");
    }

    private static void stateAlone() {
        Script.run("undo: STATE, if none", "undo()=STATE undo()=STATE count(10)=0 scans(0)=0 undo()=0 undo()=STATE writer(0,0)=0");
        Script.run("scans, writes: STATE all along an act, also behind its photo",
            "writes(1,5)=0 scans(1)=STATE writes(1,6)=STATE steps(1,1)=1 scans(1)=STATE steps(1,4)=4 writes(1,6)=STATE steps(1,1)=1 scans(1)=STATE writes(1,6)=STATE writer(1,8)=5 steps(1,1)=1 cell(1,0)=5 scans(1)=7");
        Script.run("steps: STATE as soon as it is idle", "scans(0)=0 steps(0,6)=6 steps(0,1)=STATE writes(0,1)=6 steps(0,7)=7 steps(0,1)=STATE steps(0,20)=STATE count(3)=13");
        Script.run("back: STATE of the other image", "keep(1)=0 back(0)=STATE back(1)=0 back(0)=STATE keep(0)=0 back(0)=0");
        Script.run("back: STATE leaves what can be undone", "scans(0)=0 steps(0,2)=2 back(0)=STATE back(1)=STATE count(10)=2 undo()=1 undo()=0");
    }

    private static void severalBadNumbers() {
        Script.run("several numbers are not as told",
            "begins(1,0,1)=BAD begins(5,5,9)=BAD begins(MOST,MOST,MOST)=BAD begins(LEAST,LEAST,LEAST)=BAD writes(3,100)=BAD writes(LEAST,LEAST)=BAD steps(3,0)=BAD steps(MOST,MOST)=BAD",
            "cell(3,6)=BAD cell(LEAST,MOST)=BAD writer(-1,9)=BAD writer(MOST,LEAST)=BAD read(3,3,2)=BAD read(MOST,LEAST,MOST)=BAD photo(0,11)=BAD photo(LEAST,LEAST)=BAD",
            "reads(100,3)=BAD reads(LEAST,MOST)=BAD trial(0,0,0)=BAD trial(5,5,5)=BAD trial(MOST,LEAST,MOST)=BAD sees(0,0,-1)=BAD sees(5,5,100)=BAD sees(LEAST,MOST,LEAST)=BAD");
    }

    private static void nothingChangesWhereAllIsFull() {
        String[] calls = {
            "scans 0", "scans 1", "scans 2", "writes 0 5", "writes 1 5", "writes 1 100", "writes 2 5", "steps 1 1", "steps 1 20", "steps 0 0", "steps 0 21",
            "steps 2 1", "begins 5 2 0", "begins 2 5 0", "begins 2 2 1", "begins 2 2 9", "cell 2 0", "cell 0 6", "writer 2 0", "writer 0 9", "read 2 0 0",
            "read 0 2 0", "read 0 0 2", "photo 24 0", "photo 0 11", "lone 2", "reads 100 0", "reads 0 3", "trial 5 1 1", "trial 1 5 1", "trial 1 1 5",
            "sees 1 4 4", "sees 5 1 1", "sees 1 5 1", "sees 1 1 100", "keep 2", "keep -1", "back 2", "back -1", "count 11", "count -1"};
        for (String call : calls) {
            LentViews x = States.ALL_FULL.make();
            String[] parts = call.split(" ");
            int[] numbers = new int[parts.length - 1];
            for (int i = 0; i < numbers.length; i++) {
                numbers[i] = Integer.parseInt(parts[i + 1]);
            }
            int answer = Script.call(x, parts[0], numbers);
            Due.isTrue(call + " is refused", answer == LentViews.BAD || answer == LentViews.STATE || answer == LentViews.FULL);
            Script.compareToTheEnd("where all is full, " + call + " changes nothing", x, States.ALL_FULL.make());
        }
    }

    /** "UNDONE: the latest begins(), scans(), writes(), steps() that was not refused". */
    private static void refusedCallsAreNotKnownToUndo() {
        Script.run("undo passes by what was refused",
            "writes(0,5)=0 steps(0,7)=7 scans(1)=7 steps(1,3)=3 begins(1,1,0)=BAD begins(3,2,1)=BAD scans(1)=STATE scans(3)=BAD writes(1,1)=STATE writes(0,100)=BAD steps(0,1)=STATE steps(1,0)=BAD steps(1,21)=BAD count(10)=4",
            "undo()=3 writer(1,1)=0 undo()=2 writer(1,0)=0 undo()=1 cell(0,0)=0 writer(0,0)=2 undo()=0 writer(0,0)=0 undo()=STATE");
        Script.run("undo passes by acts that were FULL", FULL_OF_ACTS, "scans(1)=FULL writes(1,1)=FULL scans(1)=FULL undo()=4 writer(0,1)=0 undo()=3 writer(0,0)=0 count(8)=23");
    }

    private static void refusedCallsLeaveTheRingOfFiveAlone() {
        String refused = "begins(0,0,0)=BAD scans(0)=STATE writes(0,1)=STATE steps(1,1)=STATE steps(0,21)=BAD ";
        StringBuilder run = new StringBuilder("begins(4,4,0)=4 scans(0)=0 ");
        for (int i = 1; i <= 7; i++) {
            run.append("steps(0,1)=1 ").append(refused).append("count(10)=").append(Math.min(5, 2 + i)).append(" ");
        }
        Script.run("five are known, refused calls among them or not", run.toString(),
            "undo()=4 writer(0,1)=6 undo()=3 writer(0,1)=5 undo()=2 writer(0,1)=4 undo()=1 writer(0,1)=3 undo()=0 writer(0,1)=2 undo()=STATE writer(0,1)=2");
    }
}
