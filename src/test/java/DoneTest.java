/** Promises 1 to 6: a new object, begins, scans, writes, steps, undo. */
public final class DoneTest {
    public static void main(String[] args) {
        aNewObject();
        begins();
        beginsMakesAllAsAtFirst();
        beginsForgetsThePast();
        beginsCanBeUndone();
        scans();
        writes();
        actsAreFull();
        steps();
        stepsByMoves();
        versionsCountOnOrWrap();
        undoOfEachKind();
        undoIsWhole();
        undoKnowsFive();
        Due.end();
    }

    private static void aNewObject() {
        Script.run("a new object",
            "count(0)=3 count(1)=2 count(2)=0 count(3)=0 count(4)=0 count(5)=0 count(6)=0 count(7)=7 count(8)=0 count(9)=0 count(10)=0",
            "cell(0,0)=0 cell(0,1)=0 cell(1,2)=0 cell(1,3)=0 cell(2,4)=0 cell(2,5)=0 cell(3,0)=BAD",
            "writer(0,0)=0 writer(1,1)=0 writer(2,2)=NONE writer(0,3)=0 writer(1,4)=0 writer(2,7)=0 writer(0,8)=NONE writer(3,0)=BAD",
            "read(0,0,0)=NONE photo(0,0)=BAD lone(0)=0 byTurns()=0 reads(0,0)=0 reads(0,1)=NONE reads(99,2)=NONE",
            "which()=15 forget()=0 undo()=STATE back(0)=STATE back(1)=STATE steps(0,1)=STATE");
    }

    private static void begins() {
        Script.run("begins: its numbers",
            "begins(2,1,0)=2 count(0)=2 count(1)=1 count(2)=0 count(7)=3",
            "begins(4,4,8)=4 count(0)=4 count(1)=4 count(2)=8 count(7)=15",
            "begins(3,3,2)=3 count(0)=3 count(1)=3 count(2)=2 count(7)=7",
            "begins(1,2,0)=BAD begins(5,2,0)=BAD begins(-2,2,0)=BAD begins(LEAST,2,0)=BAD begins(MOST,2,0)=BAD",
            "begins(3,0,0)=BAD begins(3,5,0)=BAD begins(3,-1,0)=BAD begins(3,MOST,0)=BAD",
            "begins(3,2,1)=BAD begins(3,2,9)=BAD begins(3,2,-1)=BAD begins(3,2,-2)=BAD begins(3,2,LEAST)=BAD",
            "count(0)=3 count(1)=3 count(2)=2 count(10)=3");
    }

    private static void beginsMakesAllAsAtFirst() {
        Script.run("begins: all as at first",
            "begins(4,2,0)=4 writes(3,9)=0 steps(3,20)=9 writes(0,8)=9 steps(0,3)=3 scans(1)=12 steps(1,5)=5 sees(1,1,8)=1 keep(0)=17 keep(1)=17",
            "begins(4,2,0)=4 count(3)=0 count(4)=0 count(7)=15 count(8)=0 count(9)=0",
            "cell(3,0)=0 cell(3,1)=0 writer(0,0)=0 writer(0,1)=0 writer(0,8)=NONE writer(1,3)=0 read(1,0,0)=NONE photo(0,0)=BAD",
            "back(0)=STATE back(1)=STATE scans(1)=0 steps(1,20)=8 photo(0,9)=0 photo(0,10)=0");
        Script.run("begins: fewer cells leave no value of the others behind",
            "begins(4,1,0)=4 writes(3,7)=0 steps(3,20)=9 writes(2,6)=9 steps(2,20)=9 scans(0)=18 steps(0,6)=6",
            "begins(2,1,0)=2 scans(0)=0 steps(0,20)=4 photo(0,6)=0 photo(0,8)=0 photo(0,9)=0 photo(0,10)=0",
            "writes(1,5)=4 steps(1,20)=5 cell(1,4)=0 cell(1,5)=0 photo(1,8)=0 photo(1,9)=0");
    }

    private static void beginsForgetsThePast() {
        Script.run("begins: views are 0 again",
            "begins(4,1,0)=4 writes(3,7)=0 steps(3,20)=9 writes(2,6)=9 steps(2,20)=9 cell(2,5)=7 begins(4,1,0)=4 cell(2,5)=0 cell(2,0)=0 cell(3,1)=0");
        Script.run("begins: moments are told by what was written since",
            "begins(2,1,0)=2 writes(1,5)=0 steps(1,20)=5 begins(2,1,0)=2 scans(0)=0 steps(0,20)=4 scans(0)=4 steps(0,20)=4 scans(0)=8 steps(0,20)=4 photo(2,7)=0 photo(2,10)=8 count(6)=0",
            "writes(1,6)=12 steps(1,20)=5 scans(0)=17 steps(0,20)=4 photo(4,7)=6 photo(4,10)=17");
    }

    private static void beginsCanBeUndone() {
        Script.run("begins undone: part 1 is as ahead, SEEN and images stay gone",
            "writes(2,9)=0 steps(2,20)=7 sees(1,4,9)=1 keep(1)=7 count(10)=2",
            "begins(2,4,5)=2 count(10)=3 undo()=2 count(0)=3 count(1)=2 count(2)=0 count(3)=7 cell(2,0)=9 cell(2,1)=1 count(4)=1",
            "count(9)=0 back(1)=STATE back(0)=STATE");
        Script.run("begins undone: what was SEEN and kept behind it stays",
            "begins(2,4,5)=2 sees(1,1,4)=1 scans(0)=0 steps(0,3)=3 keep(0)=3 undo()=2 undo()=1 undo()=0 count(0)=3",
            "count(9)=1 which()=0 back(0)=3 count(0)=2 count(1)=4 count(2)=5 which()=15 writer(0,1)=3");
    }

    private static void scans() {
        Script.run("scans",
            "scans(-1)=BAD scans(3)=BAD scans(LEAST)=BAD scans(MOST)=BAD count(8)=0",
            "scans(2)=0 writer(2,0)=1 writer(2,8)=NONE count(7)=3 count(8)=1 scans(2)=STATE writes(2,5)=STATE count(8)=1",
            "steps(2,4)=4 scans(0)=4 steps(2,20)=2 writer(2,0)=0 scans(2)=6 count(8)=3",
            "steps(2,20)=6 photo(1,1)=6 photo(1,2)=12 photo(1,5)=0 steps(0,20)=6 photo(2,1)=4 photo(2,2)=18 cell(0,1)=0");
    }

    private static void writes() {
        Script.run("writes",
            "writes(-1,0)=BAD writes(3,0)=BAD writes(0,-1)=BAD writes(0,100)=BAD writes(0,MOST)=BAD writes(LEAST,5)=BAD count(8)=0",
            "writes(0,0)=0 writer(0,0)=2 writer(0,8)=0 writes(0,1)=STATE scans(0)=STATE writes(0,100)=BAD",
            "writes(1,99)=0 writer(1,8)=99 count(7)=4 steps(1,6)=6 cell(1,0)=0 count(4)=1 writer(1,0)=2 steps(1,1)=1 cell(1,0)=99 cell(1,1)=1 writer(1,0)=0",
            "steps(0,20)=7 cell(0,0)=0 cell(0,1)=1 cell(0,2)=0 cell(0,3)=99 cell(0,4)=0 photo(1,5)=1");
    }

    private static void actsAreFull() {
        StringBuilder acts = new StringBuilder("begins(2,1,0)=2 ");
        for (int i = 0; i < 23; i++) {
            acts.append("scans(1)=").append(4 * i).append(" steps(1,20)=4 ");
        }
        Script.run("24 acts are all", acts.toString(),
            "count(8)=23 writes(0,7)=92 count(8)=24 scans(1)=FULL writes(1,1)=FULL count(8)=24",
            "scans(0)=STATE writes(0,1)=STATE scans(2)=BAD writes(1,100)=BAD",
            "steps(0,20)=5 scans(0)=FULL writes(0,0)=FULL photo(23,5)=1 photo(24,0)=BAD cell(0,0)=7 count(4)=24",
            "undo()=4 undo()=3 count(8)=23 scans(0)=92 scans(1)=FULL begins(2,1,0)=2 scans(1)=0");
    }

    private static void steps() {
        Script.run("steps",
            "steps(0,1)=STATE steps(3,1)=BAD steps(-1,1)=BAD steps(0,0)=BAD steps(0,21)=BAD steps(0,-1)=BAD steps(0,MOST)=BAD steps(LEAST,1)=BAD",
            "scans(0)=0 steps(0,1)=1 count(3)=1 writer(0,1)=1 steps(1,1)=STATE steps(1,0)=BAD",
            "steps(0,2)=2 writer(0,1)=3 writer(0,2)=0 writer(0,3)=1 count(4)=0 steps(0,20)=3 count(3)=6 count(4)=1 steps(0,1)=STATE",
            "writes(1,4)=6 steps(1,20)=7 count(3)=13 cell(1,0)=4 steps(1,20)=STATE");
        Script.run("steps: just k of them, 20 at most",
            "begins(4,4,0)=4 scans(0)=0 steps(0,4)=4 writes(1,1)=4 steps(1,9)=9 steps(0,4)=4 writes(1,2)=17 steps(1,9)=9 steps(0,4)=4",
            "writes(1,3)=30 steps(1,9)=9 writer(0,5)=2 steps(0,4)=4 writer(0,5)=3 lone(0)=4 steps(0,20)=4 photo(3,0)=0 photo(3,3)=20 photo(3,4)=NONE photo(3,7)=3");
    }

    /** By MOVES of 2, a scan that sees a cell move twice takes what was lent with the second write. */
    private static void stepsByMoves() {
        Script.run("steps: lent behind two moves",
            "scans(0)=0 steps(0,3)=3 writes(2,5)=3 steps(2,7)=7 steps(0,3)=3 writer(0,6)=1 count(4)=1 writes(2,6)=13 steps(2,7)=7 steps(0,3)=3",
            "writer(0,0)=0 photo(2,0)=0 photo(2,3)=9 photo(2,4)=2 photo(2,8)=5 photo(2,10)=10 count(5)=1 count(6)=0");
        Script.run("steps: one move of each of two cells is not two moves of one",
            "scans(0)=0 steps(0,3)=3 writes(2,5)=3 steps(2,7)=7 steps(0,3)=3 writes(1,6)=13 steps(1,7)=7 steps(0,3)=3",
            "writer(0,0)=1 writer(0,4)=0 writer(0,5)=1 writer(0,6)=1 steps(0,20)=3 photo(2,4)=NONE photo(2,3)=12 photo(2,7)=6 photo(2,8)=5");
        Script.run("steps: a move between two collects counts once, however often the cell was written",
            "scans(0)=0 steps(0,3)=3 writes(2,5)=3 steps(2,7)=7 writes(2,6)=10 steps(2,7)=7 writes(2,7)=17 steps(2,7)=7 steps(0,3)=3",
            "writer(0,0)=1 writer(0,6)=1 steps(0,20)=3 photo(3,4)=NONE photo(3,8)=7");
        Script.run("steps: of two cells that moved enough the lowest lends, what it had as it was read",
            "begins(4,1,0)=4 scans(3)=0 steps(3,4)=4 writes(2,20)=4 steps(2,20)=9 writes(1,10)=13 steps(1,20)=9",
            "steps(3,2)=2 writes(1,11)=24 steps(1,20)=9 cell(1,3)=10 steps(3,2)=2 writer(3,0)=0",
            "photo(3,0)=3 photo(3,4)=1 photo(3,6)=0 photo(3,7)=0 photo(3,8)=20 photo(3,9)=0 photo(3,10)=13 photo(3,3)=8 count(6)=0");
        Script.run("steps: a writing lends on what was lent to it",
            "begins(2,1,0)=2 writes(1,5)=0 steps(1,5)=5 writes(0,7)=5 steps(0,2)=2 writes(1,6)=7 steps(1,5)=5 steps(0,2)=2",
            "photo(2,0)=0 photo(2,4)=1 photo(2,5)=1 photo(2,7)=5 writer(0,2)=NONE steps(0,20)=1 cell(0,0)=7 cell(0,2)=0 cell(0,3)=5 cell(1,0)=6");
    }

    private static void versionsCountOnOrWrap() {
        Script.run("versions count on",
            "begins(2,1,0)=2 writes(0,1)=0 steps(0,20)=5 writes(0,1)=5 steps(0,20)=5 writes(0,1)=10 steps(0,20)=5 cell(0,1)=3 cell(1,1)=0");
        Script.run("versions wrap",
            "begins(2,1,3)=2 writes(0,1)=0 steps(0,20)=5 cell(0,1)=1 writes(0,1)=5 steps(0,20)=5 cell(0,1)=2 writes(0,1)=10 steps(0,20)=5 cell(0,1)=0",
            "writes(0,1)=15 steps(0,20)=5 cell(0,1)=1");
        Script.run("a version that has wrapped all round is not seen to move",
            "begins(2,1,2)=2 scans(0)=0 steps(0,2)=2 writes(1,8)=2 steps(1,20)=5 writes(1,9)=7 steps(1,20)=5 steps(0,20)=2 photo(2,4)=NONE photo(2,7)=9 photo(2,10)=12");
        Script.run("without wrap it is",
            "begins(2,1,0)=2 scans(0)=0 steps(0,2)=2 writes(1,8)=2 steps(1,20)=5 writes(1,9)=7 steps(1,20)=5 steps(0,20)=2 photo(2,4)=1 photo(2,7)=8 photo(2,10)=7");
    }

    private static void undoOfEachKind() {
        Script.run("undo of steps, a writing, a scan, begins",
            "begins(2,1,0)=2 scans(0)=0 writes(1,6)=0 steps(1,20)=5 steps(0,3)=3 count(10)=5 cell(1,0)=6 read(0,0,0)=0",
            "undo()=4 read(0,0,0)=NONE writer(0,1)=0 count(3)=5 undo()=3 cell(1,0)=0 cell(1,1)=0 count(3)=0 count(4)=0 writer(1,8)=6 lone(1)=5",
            "undo()=2 writer(1,0)=0 count(8)=1 undo()=1 count(8)=0 count(7)=3 undo()=0 count(0)=3 count(1)=2 undo()=STATE undo()=STATE");
        Script.run("undo brings a writer back into its collect, and on from there all is as it was",
            "begins(2,2,0)=2 scans(0)=0 steps(0,3)=3 writes(1,6)=3 steps(1,5)=5 undo()=4 steps(1,5)=5 steps(0,1)=1 writer(0,5)=1 undo()=4 undo()=3 undo()=2",
            "writer(0,1)=3 read(0,0,1)=0 read(0,1,1)=NONE steps(0,20)=1 photo(0,3)=4 photo(0,7)=0 photo(1,0)=BAD");
        Script.run("refused calls are not undone",
            "scans(0)=0 steps(0,21)=BAD scans(0)=STATE begins(9,9,9)=BAD steps(1,1)=STATE writes(0,1)=STATE count(10)=1 undo()=0 writer(0,0)=0 undo()=STATE");
        Script.run("looking, guessing and keeping are not undone",
            "scans(0)=0 sees(1,1,1)=1 keep(0)=0 lone(0)=6 byTurns()=6 trial(1,1,1)=6 which()=0 forget()=1 count(10)=1 sees(2,2,2)=1 undo()=0 count(9)=1 back(0)=0 writer(0,0)=1");
    }

    /** In each the undone call, or another in its place, has written over what must come back. */
    private static void undoIsWhole() {
        Script.run("undo: views",
            "begins(2,1,0)=2 writes(0,3)=0 steps(0,20)=5 writes(1,5)=5 steps(1,20)=5 writes(0,4)=10 steps(0,20)=5 writes(1,6)=15 steps(1,20)=5 cell(1,2)=4 undo()=4 cell(1,2)=3 cell(1,0)=5 cell(1,3)=0");
        Script.run("undo: what a collect has read",
            "begins(2,4,0)=2 scans(1)=0 steps(1,1)=1 writes(0,7)=1 steps(0,20)=5 steps(1,2)=2 read(1,0,0)=7 read(1,0,1)=1 undo()=4 read(1,0,0)=0 read(1,0,1)=0 steps(1,1)=1 steps(1,2)=2 writer(1,4)=1");
        Script.run("undo: the photo that is to be lent",
            "begins(2,1,0)=2 writes(0,3)=0 steps(0,20)=5 writes(1,5)=5 steps(1,4)=4 steps(1,1)=1 cell(1,2)=3 undo()=4 cell(1,2)=0 writer(1,3)=2 steps(1,1)=1 cell(1,0)=5 cell(1,2)=3 cell(1,3)=0",
            "writes(0,4)=10 steps(0,20)=5 writes(1,6)=15 steps(1,20)=5 cell(1,2)=4 undo()=4 undo()=3 undo()=2 undo()=1 undo()=0 cell(1,2)=0 steps(1,1)=1 cell(1,2)=3");
        Script.run("undo: photos",
            "begins(2,1,0)=2 scans(0)=0 steps(0,20)=4 scans(1)=4 steps(1,20)=4 photo(1,0)=1 undo()=4 undo()=3 undo()=2 undo()=1 count(4)=0 scans(1)=0 steps(1,20)=4 photo(0,0)=1 photo(1,0)=BAD");
    }

    private static void undoKnowsFive() {
        Script.run("five are known",
            "scans(0)=0 count(10)=1 steps(0,1)=1 count(10)=2 steps(0,1)=1 count(10)=3 steps(0,1)=1 count(10)=4 steps(0,1)=1 count(10)=5 steps(0,1)=1 count(10)=5 steps(0,1)=1 count(10)=5",
            "undo()=4 undo()=3 undo()=2 undo()=1 undo()=0 count(3)=1 writer(0,1)=1 undo()=STATE count(10)=0",
            "steps(0,2)=2 steps(0,1)=1 count(10)=2 undo()=1 count(3)=3 steps(0,3)=3 undo()=1 undo()=0 undo()=STATE count(3)=1");
    }
}
