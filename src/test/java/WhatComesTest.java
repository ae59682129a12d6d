/** Promises 11 to 14: lone, byTurns, reads, trial. */
public final class WhatComesTest {
    public static void main(String[] args) {
        lone();
        byTurns();
        reads();
        trial();
        nothingIsChanged();
        Due.end();
    }

    private static void lone() {
        Script.run("lone: numbers", "lone(-1)=BAD lone(3)=BAD lone(MOST)=BAD lone(LEAST)=BAD lone(2)=0");
        Script.run("lone: from the first step to the last",
            "scans(0)=0 lone(0)=6 lone(1)=0 steps(0,4)=4 lone(0)=2 steps(0,2)=2 lone(0)=0 writes(1,9)=6 lone(1)=7 steps(1,6)=6 lone(1)=1 steps(1,1)=1 lone(1)=0",
            "begins(2,1,0)=2 scans(0)=0 lone(0)=4 writes(1,1)=0 lone(1)=5 begins(4,1,0)=4 scans(0)=0 lone(0)=8 writes(1,1)=0 lone(1)=9");
        Script.run("lone: a cell that has moved makes it longer, or shorter by what was lent",
            "scans(0)=0 steps(0,3)=3 lone(0)=3 writes(1,1)=3 steps(1,20)=7 lone(0)=6 steps(0,3)=3 lone(0)=3 writes(1,2)=13 steps(1,20)=7 lone(0)=3 steps(0,20)=3 photo(2,4)=1",
            "begins(3,1,0)=3 scans(0)=0 steps(0,3)=3 writes(1,1)=3 steps(1,20)=7 lone(0)=3");
        Script.run("lone: the others stand still meanwhile",
            "begins(2,4,0)=2 writes(1,1)=0 steps(1,4)=4 scans(0)=4 steps(0,2)=2 lone(0)=2 lone(1)=1 steps(1,1)=1 lone(0)=4");
    }

    private static void byTurns() {
        Script.run("byTurns: alone and several",
            "byTurns()=0 scans(0)=0 byTurns()=6 scans(1)=0 byTurns()=12 scans(2)=0 byTurns()=18 steps(1,5)=5 byTurns()=13");
        Script.run("byTurns: a write among the others' reads",
            "begins(2,2,0)=2 writes(0,3)=0 steps(0,4)=4 scans(1)=4 steps(1,1)=1 byTurns()=6 steps(0,1)=1 steps(1,20)=5 count(3)=11");
        Script.run("byTurns: the same, lent behind one move",
            "begins(2,1,0)=2 writes(0,3)=0 steps(0,4)=4 scans(1)=4 steps(1,1)=1 byTurns()=4");
        // 0 writes in turn 1, ahead of what 1 reads there: that writer sees nothing move.
        Script.run("byTurns: by numbers, the lowest first",
            "begins(2,2,0)=2 writes(0,3)=0 steps(0,4)=4 scans(1)=4 byTurns()=5",
            "begins(2,2,0)=2 writes(1,3)=0 steps(1,4)=4 scans(0)=4 byTurns()=5 steps(0,1)=1 byTurns()=6 steps(0,1)=1 byTurns()=5");
        Script.run("byTurns: all write",
            "begins(4,1,0)=4 writes(0,1)=0 writes(1,1)=0 writes(2,1)=0 writes(3,1)=0 byTurns()=36 begins(2,1,0)=2 writes(0,1)=0 writes(1,1)=0 byTurns()=10 steps(0,4)=4 byTurns()=6");
    }

    private static void reads() {
        String photos = "scans(0)=0 steps(0,20)=6 scans(0)=6 steps(0,3)=3 writes(1,1)=9 steps(1,20)=7 steps(0,20)=6 ";
        Script.run("reads", photos + "reads(6,0)=2 reads(9,0)=1 reads(0,0)=0 reads(5,0)=0 reads(99,0)=0",
            "reads(0,1)=6 reads(5,1)=6 reads(6,1)=9 reads(8,1)=9 reads(9,1)=NONE reads(99,1)=NONE",
            "reads(99,2)=9 reads(10,2)=9 reads(9,2)=6 reads(7,2)=6 reads(6,2)=NONE reads(0,2)=NONE");
        Script.run("reads: the first photo and the last one count, in any order",
            "writes(1,1)=0 steps(1,6)=6 scans(0)=6 steps(0,3)=3 steps(1,1)=1 steps(0,20)=6 count(4)=2 reads(0,1)=6 reads(6,1)=9 reads(9,2)=6 reads(99,2)=9",
            "scans(2)=16 steps(2,20)=6 reads(99,2)=9 reads(0,1)=6 reads(6,0)=2 reads(9,0)=1");
        Script.run("reads: not of a photo that was undone", "scans(0)=0 steps(0,20)=6 undo()=1 reads(6,0)=0 reads(0,1)=NONE reads(99,2)=NONE");
        Script.run("reads: numbers", photos + "reads(-1,0)=BAD reads(100,0)=BAD reads(6,-1)=BAD reads(6,3)=BAD reads(MOST,1)=BAD reads(LEAST,2)=BAD");
        Script.run("reads: the writing step is none of a photo's", "writes(0,1)=0 steps(0,6)=6 reads(6,0)=1 steps(0,1)=1 reads(6,0)=1 reads(7,0)=0");
    }

    /** By two cells, 1 to 4: behind k reads the version is (k - 1) * 4 / 5: 0, 2, 4, 5, 7 as it is read. */
    private static void trial() {
        Script.run("trial: numbers",
            "trial(0,1,1)=BAD trial(5,1,1)=BAD trial(1,0,1)=BAD trial(1,5,1)=BAD trial(1,1,0)=BAD trial(1,1,5)=BAD trial(-1,1,1)=BAD trial(MOST,1,1)=BAD trial(1,LEAST,1)=BAD");
        Script.run("trial: two cells",
            "begins(2,2,0)=2 trial(1,1,4)=4 trial(2,1,4)=6 trial(3,1,4)=8 trial(4,1,4)=10",
            "trial(1,1,1)=4 trial(4,1,1)=4 trial(1,1,2)=4 trial(2,1,2)=6 trial(3,1,2)=8 trial(4,1,2)=8",
            "trial(1,1,3)=4 trial(2,1,3)=6 trial(3,1,3)=8 trial(4,1,3)=10 trial(4,4,4)=4 trial(1,4,1)=4 trial(2,3,1)=4 trial(3,3,4)=4",
            "begins(3,2,0)=3 trial(1,4,1)=6 trial(2,4,4)=6 begins(4,2,0)=4 trial(1,3,1)=8");
        Script.run("trial: versions that wrap",
            "begins(2,2,2)=2 trial(1,1,4)=4 trial(2,1,4)=4 trial(3,1,4)=4 trial(4,1,4)=4 trial(1,1,3)=4 trial(2,1,3)=6 trial(3,1,3)=6 trial(4,1,3)=6",
            "begins(2,2,3)=2 trial(4,1,4)=10");
        Script.run("trial: the MOVES of the object, its cells and acts, do not matter; N and WRAP do",
            "begins(2,1,0)=2 writes(1,9)=0 steps(1,20)=5 scans(0)=5 steps(0,3)=3 trial(4,1,4)=10 trial(1,1,4)=4 begins(3,1,0)=3 trial(2,1,4)=9 trial(4,1,4)=15");
    }

    private static void nothingIsChanged() {
        LentViews x = new LentViews();
        x.begins(3, 1, 4);
        x.writes(1, 5);
        x.steps(1, 6);
        x.scans(0);
        x.steps(0, 4);
        x.sees(1, 2, 9);
        java.util.List<Integer> before = Script.look(x);
        x.lone(0);
        x.byTurns();
        x.trial(3, 1, 4);
        x.reads(6, 1);
        Due.isTrue("what comes is told, not done", Script.look(x).equals(before));
    }
}
