/** Promises 7 to 10: cell, writer, read, photo. */
public final class AsItIsTest {
    public static void main(String[] args) {
        cell();
        writer();
        writerByMoves();
        read();
        photo();
        moment();
        falseByLending();
        falseByWrap();
        Due.end();
    }

    private static void cell() {
        Script.run("cell: numbers",
            "cell(-1,0)=BAD cell(3,0)=BAD cell(0,-1)=BAD cell(0,6)=BAD cell(MOST,0)=BAD cell(0,LEAST)=BAD cell(2,5)=0",
            "begins(4,2,0)=4 cell(3,0)=0 cell(3,5)=0 cell(4,0)=BAD begins(2,2,0)=2 cell(2,0)=BAD cell(1,1)=0");
        Script.run("cell: value, version, view of each",
            "begins(4,2,0)=4 writes(0,10)=0 steps(0,20)=9 writes(1,11)=9 steps(1,20)=9 writes(2,12)=18 steps(2,20)=9 writes(3,13)=27 steps(3,20)=9 writes(0,20)=36 steps(0,20)=9",
            "cell(0,0)=20 cell(0,1)=2 cell(0,2)=10 cell(0,3)=11 cell(0,4)=12 cell(0,5)=13",
            "cell(1,0)=11 cell(1,1)=1 cell(1,2)=10 cell(1,3)=0 cell(1,4)=0 cell(1,5)=0",
            "cell(2,0)=12 cell(2,1)=1 cell(2,2)=10 cell(2,3)=11 cell(2,4)=0 cell(2,5)=0",
            "cell(3,0)=13 cell(3,1)=1 cell(3,2)=10 cell(3,3)=11 cell(3,4)=12 cell(3,5)=0");
        Script.run("cell: a view has no value of a cell that there is not",
            "begins(2,2,0)=2 writes(0,10)=0 steps(0,20)=5 writes(1,11)=5 steps(1,20)=5 cell(1,2)=10 cell(1,3)=0 cell(1,4)=0 cell(1,5)=0");
    }

    private static void writer() {
        Script.run("writer: numbers",
            "writer(-1,0)=BAD writer(3,0)=BAD writer(0,-1)=BAD writer(0,9)=BAD writer(MOST,0)=BAD writer(0,MOST)=BAD");
        Script.run("writer: a scan",
            "scans(1)=0 writer(1,0)=1 writer(1,1)=0 writer(1,2)=0 writer(1,3)=0 writer(1,8)=NONE",
            "steps(1,2)=2 writer(1,1)=2 writer(1,2)=2 writer(1,3)=0 steps(1,1)=1 writer(1,1)=3 writer(1,2)=0 writer(1,3)=1",
            "steps(1,2)=2 writer(1,2)=2 writer(1,3)=1 steps(1,1)=1 writer(1,0)=0 writer(1,1)=0 writer(1,2)=NONE writer(1,3)=0 writer(1,8)=NONE");
        Script.run("writer: a writing",
            "writes(2,42)=0 writer(2,0)=2 writer(2,8)=42 writer(2,2)=0 steps(2,5)=5 writer(2,2)=2 writer(2,3)=1 steps(2,1)=1",
            "writer(2,0)=2 writer(2,1)=6 writer(2,2)=NONE writer(2,3)=2 writer(2,8)=42 steps(2,1)=1",
            "writer(2,0)=0 writer(2,1)=0 writer(2,2)=NONE writer(2,3)=0 writer(2,8)=NONE");
    }

    private static void writerByMoves() {
        Script.run("writer: MOVED counts as a collect becomes whole, not ahead",
            "begins(4,3,0)=4 writes(0,77)=0 steps(0,4)=4 writes(3,1)=4 steps(3,9)=9 writes(1,1)=13 steps(1,9)=9",
            "steps(0,3)=3 writer(0,5)=0 writer(0,7)=0 steps(0,1)=1 writer(0,4)=0 writer(0,5)=1 writer(0,6)=0 writer(0,7)=1 writer(0,3)=2 writer(0,1)=8",
            "writes(3,2)=26 steps(3,9)=9 steps(0,4)=4 writer(0,5)=1 writer(0,7)=2 steps(0,4)=4 writer(0,2)=NONE writer(0,5)=1 writer(0,7)=2 writer(0,3)=4 writer(0,1)=16",
            "steps(0,1)=1 writer(0,5)=0 writer(0,7)=0 cell(0,0)=77 cell(0,3)=1 cell(0,5)=2",
            "scans(0)=44 writer(0,5)=0 writer(0,7)=0");
        Script.run("writer: no cell, no move",
            "begins(2,1,0)=2 scans(0)=0 writer(0,6)=0 writer(0,7)=0 writer(1,6)=0 writer(1,7)=0 writer(2,6)=BAD");
    }

    private static void read() {
        Script.run("read: numbers",
            "read(-1,0,0)=BAD read(3,0,0)=BAD read(0,-1,0)=BAD read(0,3,0)=BAD read(0,0,-1)=BAD read(0,0,2)=BAD read(MOST,0,0)=BAD read(0,LEAST,0)=BAD read(0,0,0)=NONE");
        Script.run("read: what the collect that is not whole yet has",
            "writes(1,5)=0 steps(1,20)=7 writes(1,6)=7 steps(1,20)=7 scans(0)=14 read(0,0,0)=NONE",
            "steps(0,1)=1 read(0,0,0)=0 read(0,0,1)=0 read(0,1,0)=NONE read(0,1,1)=NONE steps(0,1)=1 read(0,1,0)=6 read(0,1,1)=2 read(0,2,0)=NONE",
            "steps(0,1)=1 read(0,0,0)=NONE read(0,1,0)=NONE read(0,2,0)=NONE steps(0,1)=1 read(0,0,0)=0 read(0,1,0)=NONE",
            "steps(0,2)=2 read(0,0,0)=NONE read(0,1,1)=NONE");
        Script.run("read: as it was read, not as it is now",
            "scans(0)=0 steps(0,2)=2 writes(1,8)=2 steps(1,20)=7 cell(1,0)=8 cell(1,1)=1 read(0,1,0)=0 read(0,1,1)=0",
            "steps(0,3)=3 read(0,1,0)=8 read(0,1,1)=1");
        Script.run("read: none for who has its photo",
            "writes(0,1)=0 steps(0,5)=5 read(0,0,0)=0 read(0,1,0)=0 steps(0,1)=1 read(0,0,0)=NONE read(0,1,0)=NONE read(0,2,0)=NONE steps(0,1)=1 read(0,0,0)=NONE");
    }

    private static void photo() {
        Script.run("photo: numbers",
            "photo(0,0)=BAD photo(-1,0)=BAD scans(2)=0 steps(2,5)=5 photo(0,0)=BAD steps(2,1)=1 photo(0,0)=2 photo(1,0)=BAD photo(-1,0)=BAD photo(0,-1)=BAD photo(0,11)=BAD photo(MOST,0)=BAD photo(LEAST,0)=BAD");
        Script.run("photo: all of a writing's, taken ahead of its writing",
            "writes(1,5)=0 steps(1,20)=7 writes(2,6)=7 scans(0)=7 steps(0,1)=1 steps(2,6)=6 count(4)=2",
            "photo(1,0)=2 photo(1,1)=7 photo(1,2)=14 photo(1,3)=6 photo(1,4)=NONE photo(1,5)=1 photo(1,6)=0 photo(1,7)=5 photo(1,8)=0 photo(1,9)=0 photo(1,10)=7",
            "steps(0,20)=5 photo(2,0)=0 photo(2,1)=7 photo(2,2)=19 photo(2,3)=6 photo(2,5)=0 photo(2,7)=5 photo(2,8)=0 steps(2,20)=1 photo(1,8)=0 photo(1,2)=14 count(4)=3");
        Script.run("photo: numbered as they are taken, not as they are begun",
            "scans(0)=0 scans(1)=0 scans(2)=0 steps(0,5)=5 steps(1,6)=6 steps(2,6)=6 steps(0,1)=1 photo(0,0)=1 photo(1,0)=2 photo(2,0)=0 photo(0,1)=0 photo(0,2)=11 photo(1,2)=17 photo(2,2)=18");
        Script.run("photo: of four cells",
            "begins(4,2,0)=4 writes(3,33)=0 steps(3,20)=9 writes(2,22)=9 steps(2,20)=9 scans(0)=18 steps(0,20)=8 photo(2,6)=0 photo(2,7)=0 photo(2,8)=22 photo(2,9)=33 photo(2,10)=18");
    }

    private static void moment() {
        Script.run("moment: the least, though the cells are so again later",
            "begins(2,4,0)=2 scans(0)=0 steps(0,2)=2 writes(1,5)=2 steps(1,5)=5 writes(1,0)=7 steps(1,5)=5 steps(0,20)=4 photo(2,3)=6 photo(2,7)=0 photo(2,10)=0",
            "scans(0)=16 steps(0,2)=2 writes(1,5)=18 steps(1,5)=5 writes(1,0)=23 steps(1,5)=5 writes(1,5)=28 steps(1,5)=5 steps(0,20)=4 photo(6,0)=0 photo(6,7)=5 photo(6,10)=23");
        Script.run("moment: not ahead of BEGAN",
            "begins(2,1,0)=2 writes(1,5)=0 steps(1,5)=5 writes(1,0)=5 steps(1,5)=5 writes(1,5)=10 steps(1,5)=5 scans(0)=15 steps(0,4)=4 photo(3,7)=5 photo(3,10)=15");
        Script.run("moment: just at the write within",
            "begins(2,3,0)=2 writes(1,5)=0 steps(1,4)=4 scans(0)=4 steps(0,1)=1 steps(1,1)=1 steps(0,20)=3 photo(1,7)=5 photo(1,1)=4 photo(1,2)=9 photo(1,10)=6");
        Script.run("moment: told anew behind undo",
            "begins(2,1,0)=2 writes(1,5)=0 steps(1,5)=5 undo()=2 steps(1,4)=4 scans(0)=4 steps(0,4)=4 photo(1,7)=0 photo(1,10)=4 steps(1,1)=1 scans(0)=9 steps(0,4)=4 photo(2,7)=5 photo(2,10)=9 count(6)=0");
    }

    /** What was lent is older than the scan: there was no such moment in it. */
    private static void falseByLending() {
        Script.run("false: lent from ahead of BEGAN",
            "begins(2,1,0)=2 writes(1,5)=0 steps(1,4)=4 writes(0,3)=4 steps(0,5)=5 scans(0)=9 steps(0,2)=2 steps(1,1)=1 steps(0,2)=2",
            "photo(2,0)=0 photo(2,1)=9 photo(2,2)=14 photo(2,3)=4 photo(2,4)=1 photo(2,6)=0 photo(2,7)=0 photo(2,10)=NONE count(5)=1 count(6)=1 count(4)=3",
            "photo(0,10)=0 photo(1,10)=4 undo()=4 count(6)=0 count(5)=0 steps(0,1)=1 count(6)=0 steps(0,1)=1 count(6)=1");
    }

    /** The versions have come round: the readings agree by number alone. */
    private static void falseByWrap() {
        String run = "scans(2)=0 steps(2,4)=4 writes(0,1)=4 steps(0,20)=7 writes(1,1)=11 steps(1,20)=7 writes(1,2)=18 steps(1,20)=7 ";
        Script.run("false: by WRAP", "begins(3,2,2)=3 " + run,
            "steps(2,20)=2 photo(3,0)=2 photo(3,3)=6 photo(3,4)=NONE photo(3,6)=0 photo(3,7)=2 photo(3,8)=0 photo(3,10)=NONE count(5)=0 count(6)=1");
        Script.run("not false: the same without WRAP", "begins(3,2,0)=3 " + run,
            "steps(2,2)=2 writer(2,4)=0 writer(2,5)=1 steps(2,3)=3 writer(2,4)=1 count(4)=3 steps(2,20)=3 photo(3,3)=12 photo(3,6)=1 photo(3,7)=2 photo(3,10)=25 count(6)=0");
    }
}
