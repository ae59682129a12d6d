/** Promises 19 to 21: keep, back, count. */
public final class ImagesTest {
    public static void main(String[] args) {
        keep();
        back();
        backIsWhole();
        count();
        Due.end();
    }

    private static void keep() {
        Script.run("keep: numbers", "keep(-1)=BAD keep(2)=BAD keep(MOST)=BAD keep(LEAST)=BAD back(0)=STATE back(1)=STATE keep(0)=0 back(1)=STATE back(0)=0");
        Script.run("keep: TIME, and the newer one stays",
            "scans(0)=0 steps(0,2)=2 keep(0)=2 steps(0,3)=3 keep(1)=5 back(0)=2 writer(0,1)=2 back(1)=5 writer(0,1)=5 keep(0)=5 steps(0,20)=1 back(0)=5 back(0)=5 count(4)=0");
        Script.run("keep: changes nothing", "scans(0)=0 keep(0)=0 count(10)=1 undo()=0 writer(0,0)=0 back(0)=0 writer(0,0)=1");
    }

    private static void back() {
        Script.run("back: numbers", "back(-1)=BAD back(2)=BAD back(MOST)=BAD back(LEAST)=BAD back(0)=STATE");
        Script.run("back: nothing can be undone behind it",
            "scans(0)=0 keep(1)=0 steps(0,2)=2 count(10)=2 back(1)=0 count(10)=0 undo()=STATE steps(0,3)=3 count(10)=1 undo()=0 writer(0,1)=0 undo()=STATE");
        Script.run("back: what was SEEN and the other image stay",
            "keep(0)=0 sees(1,4,9)=1 scans(1)=0 keep(1)=0 back(0)=0 count(9)=1 which()=2 writer(1,0)=0 back(1)=0 writer(1,0)=1");
        Script.run("back: images are gone by begins, and stay gone",
            "keep(0)=0 keep(1)=0 begins(3,2,0)=3 back(0)=STATE back(1)=STATE undo()=0 back(0)=STATE keep(1)=0 back(0)=STATE back(1)=0");
    }

    private static void backIsWhole() {
        Script.run("back: cells, collects, photos, acts, the past by which moments are told",
            "begins(4,3,5)=4 writes(2,7)=0 steps(2,20)=9 scans(0)=9 steps(0,5)=5 writes(1,8)=14 steps(1,8)=8 keep(0)=22",
            "steps(1,1)=1 steps(0,20)=7 writes(2,9)=30 steps(2,20)=9 begins(2,1,0)=2 undo()=4 back(0)=STATE keep(0)=39 scans(3)=39 back(0)=39 count(8)=4");
        Script.run("back: on from an image all is as it was",
            "begins(2,1,0)=2 writes(1,5)=0 steps(1,4)=4 writes(0,3)=4 steps(0,5)=5 scans(0)=9 steps(0,2)=2 keep(1)=11 steps(1,1)=1 writes(1,6)=12 steps(1,20)=5 steps(0,20)=2 photo(3,10)=12",
            "back(1)=11 count(3)=11 count(4)=2 count(8)=3 cell(0,0)=3 cell(1,0)=0 writer(0,3)=1 lone(1)=1 steps(1,1)=1 steps(0,2)=2 photo(2,4)=1 photo(2,10)=NONE count(6)=1");
        Script.run("back: photos that others took the place of",
            "begins(2,1,0)=2 keep(1)=0 scans(0)=0 steps(0,20)=4 writes(0,9)=4 steps(0,20)=5 keep(0)=9 back(1)=0",
            "writes(1,5)=0 steps(1,20)=5 scans(1)=5 steps(1,20)=4 photo(0,0)=1 photo(0,5)=1 photo(1,7)=5 back(0)=9 photo(0,0)=0 photo(0,5)=0 photo(0,2)=4 photo(1,0)=0 photo(1,5)=1 photo(1,1)=4 photo(1,2)=8 photo(1,7)=0 photo(1,10)=4");
        Script.run("back: the past that another took the place of",
            "begins(2,1,0)=2 keep(1)=0 writes(0,1)=0 steps(0,20)=5 writes(0,2)=5 steps(0,20)=5 writes(1,3)=10 steps(1,20)=5 keep(0)=15 back(1)=0",
            "writes(1,7)=0 steps(1,20)=5 writes(1,8)=5 steps(1,20)=5 writes(0,9)=10 steps(0,20)=5 writes(0,6)=15 steps(0,20)=5 back(0)=15",
            "cell(0,0)=2 cell(1,0)=3 cell(1,2)=2 scans(0)=15 steps(0,20)=4 photo(3,6)=2 photo(3,7)=3 photo(3,10)=15 count(6)=0");
        Script.run("back: the times of the past",
            "begins(2,3,0)=2 writes(1,5)=0 steps(1,4)=4 scans(0)=4 steps(0,1)=1 steps(1,1)=1 steps(0,1)=1 keep(0)=7 undo()=4 undo()=3 steps(0,1)=1 steps(1,1)=1 back(0)=7 steps(0,20)=2 photo(1,7)=5 photo(1,10)=6");
        Script.run("back: N, MOVES, WRAP",
            "begins(4,1,8)=4 keep(0)=0 undo()=0 count(0)=3 back(0)=0 count(0)=4 count(1)=1 count(2)=8 count(7)=15 scans(3)=0");
    }

    private static void count() {
        Script.run("count: numbers", "count(-1)=BAD count(11)=BAD count(MOST)=BAD count(LEAST)=BAD");
        Script.run("count: each",
            "begins(4,1,6)=4 scans(3)=0 steps(3,4)=4 writes(1,5)=4 steps(1,20)=9 writes(2,1)=13 steps(3,20)=4 sees(1,1,1)=1",
            "count(0)=4 count(1)=1 count(2)=6 count(3)=17 count(4)=2 count(5)=1 count(6)=0 count(7)=11 count(8)=3 count(9)=1 count(10)=5");
        Script.run("count: who is idle", "scans(0)=0 count(7)=6 scans(2)=0 count(7)=2 scans(1)=0 count(7)=0 steps(1,20)=6 count(7)=2 begins(2,1,0)=2 count(7)=3");
    }
}
