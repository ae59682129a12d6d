/** The boundary cases that part 1 of the document names: what is done. Each method is of one sentence. */
public final class DoingEdgeTest {
    public static void main(String[] args) {
        twoToFourThreeAtFirst();
        aValueIsNoughtToNinetyNine();
        allNoughtAtFirst();
        movesOneToFour();
        wrapNoughtOrTwoToEight();
        versionsLeftOverByWrap();
        wrappedAllRoundIsNoMove();
        aCollectIsOfAllCells();
        theFirstCollectOfAnAct();
        movedIsNoughtAsTheActBegins();
        noSuchCell();
        asMuchAsMoves();
        theLowestOfThese();
        theViewInThisCollect();
        aWritingHasOneMoreStep();
        photosAreNumberedFromNought();
        fiveAreKnown();
        olderOnesAreLost();
        twentyFourActs();
        oneToTwentySteps();
        theLongestScan();
        Due.end();
    }

    /** "There are N CELLS and as many WRITERS (2 to 4; 3 at first), numbered alike". */
    private static void twoToFourThreeAtFirst() {
        Script.run("3 at first", "count(0)=3 cell(2,0)=0 writer(2,0)=0 scans(2)=0 cell(3,0)=BAD writer(3,0)=BAD scans(3)=BAD writes(3,0)=BAD steps(3,1)=BAD lone(3)=BAD read(3,0,0)=BAD read(0,3,0)=BAD count(7)=3");
        Script.run("2 are the fewest", "begins(1,2,0)=BAD begins(0,2,0)=BAD begins(2,2,0)=2 count(0)=2 cell(1,0)=0 writer(1,0)=0 writes(1,1)=0 cell(2,0)=BAD writer(2,0)=BAD scans(2)=BAD writes(2,0)=BAD steps(2,1)=BAD lone(2)=BAD read(2,0,0)=BAD read(0,2,0)=BAD count(7)=1");
        Script.run("4 are the most", "begins(5,2,0)=BAD begins(4,2,0)=4 count(0)=4 cell(3,0)=0 writer(3,0)=0 writes(3,1)=0 cell(4,0)=BAD writer(4,0)=BAD scans(4)=BAD writes(4,0)=BAD steps(4,1)=BAD lone(4)=BAD read(4,0,0)=BAD read(0,4,0)=BAD count(7)=7");
    }

    /** "A CELL has a VALUE (0 to 99)". */
    private static void aValueIsNoughtToNinetyNine() {
        Script.run("99 is the greatest", "writes(0,100)=BAD writes(0,99)=0 writer(0,8)=99 steps(0,20)=7 cell(0,0)=99 scans(1)=7 steps(1,20)=6 photo(1,6)=99 writes(2,99)=13 steps(2,20)=7 cell(2,2)=99 cell(2,0)=99");
        Script.run("0 is the least, and is written over others", "writes(0,-1)=BAD writes(0,99)=0 steps(0,20)=7 writes(0,0)=7 writer(0,8)=0 steps(0,20)=7 cell(0,0)=0 cell(0,1)=2 cell(0,2)=99 scans(0)=14 steps(0,20)=6 photo(2,6)=0");
        Script.run("one that is not a VALUE", "writes(0,LEAST)=BAD writes(0,MOST)=BAD writer(0,0)=0 count(8)=0");
    }

    /** "a VALUE, a VERSION, a VIEW (N VALUES); all 0 at first", "idle at first", "TIME .. (0 at first)". */
    private static void allNoughtAtFirst() {
        allIsNought("a new object", new LentViews());
        for (int n = 2; n <= 4; n++) {
            LentViews x = new LentViews();
            x.begins(4, 1, 0);
            for (int p = 0; p < 4; p++) {
                x.writes(p, 50 + p);
                x.steps(p, 20);
                x.scans(p);
                x.steps(p, 5);
            }
            x.begins(n, 2, 0);
            allIsNought("begun anew, N " + n, x);
        }
    }

    private static void allIsNought(String name, LentViews x) {
        for (int c = 0; c < x.count(0); c++) {
            for (int what = 0; what <= 5; what++) {
                Due.is(name + ": cell(" + c + ", " + what + ")", x.cell(c, what), 0);
            }
            for (int what = 0; what <= 8; what++) {
                Due.is(name + ": writer(" + c + ", " + what + ")", x.writer(c, what), what == 2 || what == 8 ? -9 : 0);
            }
        }
        Due.is(name + ": TIME", x.count(3), 0);
        Due.is(name + ": PHOTOS", x.count(4), 0);
        Due.is(name + ": ACTS", x.count(8), 0);
    }

    /** "MOVES (1 to 4; 2 at first)". */
    private static void movesOneToFour() {
        Script.run("MOVES", "count(1)=2 begins(3,0,0)=BAD begins(3,5,0)=BAD begins(3,LEAST,0)=BAD begins(3,MOST,0)=BAD count(1)=2 begins(3,1,0)=3 count(1)=1 begins(3,4,0)=3 count(1)=4 begins(3,3,0)=3 count(1)=3");
    }

    /** "WRAP (0, or 2 to 8; 0 at first)", "BAD (WRAP of 1, too)". */
    private static void wrapNoughtOrTwoToEight() {
        Script.run("WRAP", "count(2)=0 begins(3,2,1)=BAD begins(3,2,-1)=BAD begins(3,2,9)=BAD begins(3,2,LEAST)=BAD begins(3,2,MOST)=BAD count(2)=0 begins(3,2,2)=3 count(2)=2 begins(3,2,8)=3 count(2)=8 begins(3,2,1)=BAD count(2)=8 begins(3,2,0)=3 count(2)=0");
    }

    /** "its VERSION 1 more (left over by WRAP, if that is not 0)": all the 24 writings that there may be. */
    private static void versionsLeftOverByWrap() {
        for (int wrap = 0; wrap <= 8; wrap++) {
            if (wrap == 1) {
                continue;
            }
            StringBuilder run = new StringBuilder("begins(2,1," + wrap + ")=2 ");
            for (int i = 1; i <= 24; i++) {
                run.append(write(1, i, 5 * (i - 1), 5)).append("cell(1,1)=").append(wrap == 0 ? i : i % wrap).append(" ");
            }
            Script.run("versions by WRAP " + wrap, run.toString(), "cell(0,1)=0 cell(1,0)=24 cell(1,3)=23 count(8)=24");
        }
    }

    /** "whose VERSION is another one": as many writes as WRAP are none, one less and one more are. */
    private static void wrappedAllRoundIsNoMove() {
        for (int wrap = 2; wrap <= 8; wrap++) {
            for (int writes = wrap - 1; writes <= wrap + 1; writes++) {
                boolean moved = writes != wrap;
                Script.run("WRAP " + wrap + ", written " + writes + " times between two collects",
                    "begins(2,2," + wrap + ")=2 scans(0)=0 steps(0,2)=2 " + writeOften(writes, 2),
                    "steps(0,2)=2 writer(0,0)=" + (moved ? "1 writer(0,5)=1 count(4)=" + writes : "0 writer(0,5)=0 photo(" + writes + ",7)=" + writes));
            }
            Script.run("WRAP 0, written " + wrap + " times between two collects",
                "begins(2,2,0)=2 scans(0)=0 steps(0,2)=2 " + writeOften(wrap, 2), "steps(0,2)=2 writer(0,0)=1 writer(0,5)=1");
        }
    }

    /** "CELLS 0 to N less 1 in a row are a COLLECT, then from 0 on again." */
    private static void aCollectIsOfAllCells() {
        for (int n = 2; n <= 4; n++) {
            StringBuilder run = new StringBuilder("begins(" + n + ",1,0)=" + n + " writes(" + (n - 1) + ",9)=0 ");
            for (int i = 0; i < 2 * n; i++) {
                run.append("writer(").append(n - 1).append(",2)=").append(i % n);
                run.append(" writer(").append(n - 1).append(",3)=").append(i / n);
                run.append(" writer(").append(n - 1).append(",1)=").append(i).append(" steps(").append(n - 1).append(",1)=1 ");
            }
            Script.run("collects of " + n, run.toString(),
                "writer(" + (n - 1) + ",2)=NONE writer(" + (n - 1) + ",3)=2 writer(" + (n - 1) + ",1)=" + 2 * n + " steps(" + (n - 1) + ",1)=1 writer(" + (n - 1) + ",2)=NONE");
        }
    }

    /** "if it is the first COLLECT of the ACT, nothing more." */
    private static void theFirstCollectOfAnAct() {
        Script.run("versions that are not 0 are no moves", "begins(2,1,0)=2 writes(1,5)=0 steps(1,20)=5 scans(0)=5 steps(0,2)=2 writer(0,0)=1 writer(0,5)=0 writer(0,3)=1 steps(0,20)=2 photo(1,4)=NONE photo(1,7)=5");
        Script.run("what moved since the act ahead is no move",
            "begins(2,1,0)=2 scans(0)=0 steps(0,20)=4 writes(1,5)=4 steps(1,20)=5 scans(0)=9 steps(0,2)=2 writer(0,0)=1 writer(0,5)=0 count(4)=2 steps(0,20)=2 photo(2,4)=NONE photo(2,3)=4");
        Script.run("a cell that is written behind its reading moves in the second collect",
            "begins(2,2,0)=2 scans(1)=0 steps(1,1)=1 writes(0,5)=1 steps(0,20)=5 steps(1,1)=1 writer(1,3)=1 writer(1,4)=0 steps(1,1)=1 writer(1,4)=0 steps(1,1)=1 writer(1,4)=1 writer(1,3)=2");
    }

    /** "MOVED (0 as the ACT begins)". */
    private static void movedIsNoughtAsTheActBegins() {
        Script.run("moves of the act ahead do not count",
            "begins(2,2,0)=2 scans(0)=0 steps(0,2)=2 writes(1,1)=2 steps(1,20)=5 steps(0,2)=2 writer(0,5)=1 steps(0,20)=2 writer(0,5)=0",
            "scans(0)=11 writer(0,5)=0 steps(0,2)=2 writes(1,2)=13 steps(1,20)=5 steps(0,2)=2 writer(0,0)=1 writer(0,5)=1 steps(0,20)=2 photo(3,4)=NONE photo(3,7)=2");
    }

    /** "If there is no such CELL: the PHOTO is the VALUES of this COLLECT". */
    private static void noSuchCell() {
        Script.run("as they were read, not as they are now", "begins(2,1,0)=2 scans(1)=0 steps(1,3)=3 writes(0,5)=3 steps(0,20)=5 steps(1,1)=1 photo(1,0)=1 photo(1,4)=NONE photo(1,6)=0 photo(1,10)=0 cell(0,0)=5");
        Script.run("the values of the later of both", "begins(2,1,2)=2 scans(0)=0 steps(0,2)=2 writes(1,5)=2 steps(1,20)=5 writes(1,6)=7 steps(1,20)=5 steps(0,2)=2 photo(2,4)=NONE photo(2,7)=6");
        Script.run("a value written anew, though alike, is a move", "begins(2,1,0)=2 scans(0)=0 steps(0,2)=2 writes(1,0)=2 steps(1,20)=5 steps(0,2)=2 photo(1,4)=1 photo(1,7)=0");
    }

    /** "CELLS have MOVED as much as MOVES or more": just as often, one less does not do. */
    private static void asMuchAsMoves() {
        for (int n = 2; n <= 4; n++) {
            for (int moves = 1; moves <= 4; moves++) {
                Script.run("N " + n + ", moved " + moves + " times, as much as MOVES", movedOften(n, moves, moves),
                    "writer(0,0)=0 photo(" + moves + ",4)=1 photo(" + moves + ",3)=" + n * (moves + 1) + " photo(" + moves + ",7)=" + (moves - 1) + " count(5)=1");
                Script.run("N " + n + ", moved " + (moves - 1) + " times, one less than MOVES", movedOften(n, moves, moves - 1),
                    "writer(0,0)=1 writer(0,5)=" + (moves - 1) + " steps(0,20)=" + n + " photo(" + (moves - 1) + ",4)=NONE photo(" + (moves - 1) + ",3)=" + n * (moves + 1) + " photo(" + (moves - 1) + ",7)=" + (moves - 1) + " count(5)=0");
            }
        }
    }

    /** A scan of writer 0 that has seen cell 1 move so often, once in each collect but the first. */
    private static String movedOften(int n, int moves, int often) {
        StringBuilder run = new StringBuilder("begins(" + n + "," + moves + ",0)=" + n + " scans(0)=0 steps(0," + n + ")=" + n + " ");
        int time = n;
        for (int i = 1; i <= often; i++) {
            run.append("writer(0,0)=1 writer(0,5)=").append(i - 1).append(" ").append(write(1, i, time, 2 * n + 1));
            run.append("steps(0,").append(n).append(")=").append(n).append(" ");
            time += 3 * n + 1;
        }
        return run.toString();
    }

    /** "the VIEW that the lowest of these had": of those alone that have MOVED as much as MOVES. */
    private static void theLowestOfThese() {
        Script.run("the lowest of all there may be", "begins(4,1,0)=4 scans(3)=0 steps(3,4)=4 " + write(2, 22, 4, 9) + write(1, 11, 13, 9) + write(0, 10, 22, 9),
            "steps(3,4)=4 photo(3,0)=3 photo(3,4)=0 photo(3,6)=0 photo(3,7)=11 photo(3,8)=22 photo(3,9)=0");
        Script.run("the greatest number, if it is the only one", "begins(4,1,0)=4 scans(0)=0 steps(0,4)=4 " + write(3, 33, 4, 9), "steps(0,4)=4 photo(1,4)=3 photo(1,9)=0");
        Script.run("a lower one that has moved less does not lend",
            "begins(4,2,0)=4 scans(0)=0 steps(0,4)=4 " + write(3, 33, 4, 9) + "steps(0,4)=4 " + write(3, 34, 17, 9) + write(1, 11, 26, 9) + "steps(0,4)=4",
            "photo(3,0)=0 photo(3,4)=3 photo(3,7)=0 photo(3,9)=33");
    }

    /** "the VIEW that the lowest of these had in this COLLECT". */
    private static void theViewInThisCollect() {
        Script.run("not the one that it has by now",
            "begins(2,1,0)=2 scans(1)=0 steps(1,2)=2 " + write(0, 5, 2, 5) + "steps(1,1)=1 " + write(0, 6, 8, 5) + "cell(0,2)=5 steps(1,1)=1 photo(2,0)=1 photo(2,4)=0 photo(2,6)=0 photo(2,10)=0");
        Script.run("not the one of the collect ahead",
            "begins(2,1,0)=2 " + write(0, 5, 0, 5) + "scans(1)=5 steps(1,2)=2 " + write(0, 6, 7, 5) + "steps(1,2)=2 photo(2,4)=0 photo(2,6)=5 photo(2,10)=5");
    }

    /** "A SCAN is done by its PHOTO, p is idle. A WRITING has one more STEP then". */
    private static void aWritingHasOneMoreStep() {
        for (int n = 2; n <= 4; n++) {
            Script.run("a scan of " + n, "begins(" + n + ",2,0)=" + n + " scans(0)=0 steps(0," + (2 * n - 1) + ")=" + (2 * n - 1) + " count(4)=0 writer(0,0)=1 steps(0,20)=1 count(4)=1 writer(0,0)=0");
            Script.run("a writing of " + n, "begins(" + n + ",2,0)=" + n + " writes(0,8)=0 steps(0," + 2 * n + ")=" + 2 * n + " count(4)=1 writer(0,0)=2 cell(0,0)=0 cell(0,1)=0 steps(0,20)=1 count(4)=1 writer(0,0)=0 cell(0,0)=8 cell(0,1)=1");
        }
        Script.run("what is written meanwhile is not in its view",
            "begins(2,2,0)=2 writes(0,8)=0 steps(0,4)=4 " + write(1, 9, 4, 5) + "steps(0,1)=1 cell(0,0)=8 cell(0,3)=0 cell(1,0)=9 cell(1,2)=0");
    }

    /** "PHOTOS are numbered from 0 on as they are taken": none, one, and all that there may be. */
    private static void photosAreNumberedFromNought() {
        Script.run("none", "photo(0,0)=BAD photo(-1,0)=BAD scans(0)=0 steps(0,5)=5 photo(0,0)=BAD count(4)=0 steps(0,1)=1 photo(0,0)=0 photo(1,0)=BAD count(4)=1");
        StringBuilder run = new StringBuilder("begins(2,1,0)=2 ");
        for (int i = 0; i < 24; i++) {
            run.append("photo(").append(i).append(",0)=BAD scans(").append(i % 2).append(")=").append(4 * i).append(" steps(").append(i % 2).append(",20)=4 ");
            run.append("photo(").append(i).append(",0)=").append(i % 2).append(" photo(").append(i).append(",1)=").append(4 * i);
            run.append(" photo(").append(i).append(",2)=").append(4 * i + 4).append(" photo(").append(i).append(",10)=").append(4 * i).append(" ");
        }
        Script.run("all", run.toString(), "photo(24,0)=BAD photo(0,1)=0 photo(23,2)=96 count(4)=24 reads(4,0)=24 scans(0)=FULL");
    }

    /** "UNDONE: .. (5 are known ..)": none, one, four, five. */
    private static void fiveAreKnown() {
        Script.run("none", "count(10)=0 undo()=STATE keep(0)=0 sees(1,1,1)=1 lone(0)=0 undo()=STATE");
        Script.run("one of each kind",
            "begins(2,1,0)=2 undo()=0 count(0)=3 undo()=STATE scans(0)=0 undo()=0 writer(0,0)=0 undo()=STATE writes(0,1)=0 undo()=0 writer(0,0)=0 writer(0,8)=NONE undo()=STATE",
            "scans(1)=0 steps(1,2)=2 undo()=1 writer(1,1)=0 undo()=0 undo()=STATE");
        Script.run("four", "begins(4,4,8)=4 scans(0)=0 writes(1,1)=0 steps(1,9)=9 count(10)=4 undo()=3 cell(1,0)=0 undo()=2 writer(1,0)=0 undo()=1 writer(0,0)=0 undo()=0 count(0)=3 count(1)=2 count(2)=0 undo()=STATE");
        Script.run("five", "begins(4,4,8)=4 scans(0)=0 writes(1,1)=0 steps(1,9)=9 steps(0,8)=8 count(10)=5 undo()=4 count(4)=1 undo()=3 undo()=2 undo()=1 undo()=0 count(0)=3 undo()=STATE");
    }

    /** "(5 are known, older ones are lost)": six and more, and again behind some that were undone. */
    private static void olderOnesAreLost() {
        Script.run("six: the first is lost", "begins(4,4,8)=4 scans(0)=0 writes(1,1)=0 steps(1,9)=9 steps(0,4)=4 steps(0,4)=4 count(10)=5 undo()=4 undo()=3 undo()=2 undo()=1 undo()=0 undo()=STATE count(0)=4 count(8)=0 count(10)=0");
        for (int deeds = 6; deeds <= 14; deeds++) {
            StringBuilder run = new StringBuilder("begins(4,4,0)=4 scans(0)=0 writes(1,1)=0 ");
            for (int i = 3; i < deeds; i++) {
                run.append("steps(").append(i < 9 ? 0 : 1).append(",1)=1 ");
            }
            for (int known = 4; known >= 0; known--) {
                run.append("undo()=").append(known).append(" count(3)=").append(Math.max(0, deeds - 8 + known)).append(" ");
            }
            Script.run(deeds + " were done", run.toString(), "undo()=STATE count(10)=0");
        }
        Script.run("undone and done again, the ring goes round",
            "begins(4,4,0)=4 scans(0)=0 steps(0,1)=1 steps(0,1)=1 steps(0,1)=1 steps(0,1)=1 undo()=4 undo()=3 steps(0,2)=2 count(10)=4 steps(0,1)=1 count(10)=5 steps(0,1)=1 count(10)=5 steps(0,1)=1 count(3)=7",
            "undo()=4 count(3)=6 undo()=3 count(3)=5 undo()=2 count(3)=4 undo()=1 count(3)=2 undo()=0 count(3)=1 undo()=STATE count(3)=1");
    }

    /** "FULL: 24 ACTS were begun." Those that are not done count too, those that were undone do not. */
    private static void twentyFourActs() {
        String acts22 = acts(22);
        Script.run("the 23rd and 24th, both not done yet", acts22, "scans(1)=88 count(8)=23 writes(0,5)=88 count(8)=24 scans(0)=STATE writes(1,1)=STATE steps(1,20)=4 scans(1)=FULL writes(1,1)=FULL steps(0,20)=5 writes(0,1)=FULL scans(0)=FULL count(8)=24 count(4)=24");
        Script.run("one that was undone leaves room", acts22, "scans(1)=88 scans(0)=88 undo()=4 count(8)=23 writes(0,5)=88 count(8)=24 steps(0,20)=5 scans(0)=FULL undo()=4 undo()=3 scans(0)=88 count(8)=24 steps(0,20)=4 scans(0)=FULL");
        Script.run("an image has its own number of acts", "begins(2,1,0)=2 keep(0)=0 " + acts22.substring("begins(2,1,0)=2 ".length()), "scans(1)=88 scans(0)=88 keep(1)=88 back(0)=0 count(8)=0 scans(0)=0 back(1)=88 count(8)=24 steps(0,20)=4 scans(0)=FULL");
        Script.run("begun anew there is room again", acts22, "scans(1)=88 writes(0,1)=88 steps(1,20)=4 scans(1)=FULL begins(2,1,0)=2 count(8)=0 scans(1)=0 writes(0,1)=0 count(8)=2 undo()=4 undo()=3 undo()=2 count(8)=24 scans(1)=FULL");
    }

    private static String acts(int often) {
        StringBuilder run = new StringBuilder("begins(2,1,0)=2 ");
        for (int i = 0; i < often; i++) {
            run.append("scans(0)=").append(4 * i).append(" steps(0,20)=4 ");
        }
        return run.toString();
    }

    /** "k STEPS (1 .. 20) of a WRITER, or as many as there are till it is idle: how many." */
    private static void oneToTwentySteps() {
        Script.run("1 and 20", "scans(0)=0 steps(0,0)=BAD steps(0,21)=BAD steps(0,LEAST)=BAD steps(0,MOST)=BAD steps(0,1)=1 count(3)=1 steps(0,20)=5 count(3)=6 steps(0,20)=STATE");
        Script.run("just as many as there are, and one less", "writes(0,1)=0 steps(0,7)=7 writer(0,0)=0 writes(0,2)=7 steps(0,6)=6 writer(0,0)=2 steps(0,1)=1 writer(0,0)=0 count(3)=14");
        // 12: the rest of its collect, one that sees the move, one that agrees, the writing. No call can do more.
        Script.run("the most that there may be", "begins(4,2,0)=4 writes(3,9)=0 steps(3,1)=1 " + write(0, 5, 1, 9) + "lone(3)=12 steps(3,20)=12 cell(3,0)=9 count(3)=22");
    }

    /** Each of three cells moves one time less than MOVES, each in a collect of its own. */
    private static void theLongestScan() {
        StringBuilder run = new StringBuilder("begins(4,4,0)=4 scans(0)=0 steps(0,4)=4 ");
        int time = 4;
        for (int i = 0; i < 9; i++) {
            run.append(write(1 + i % 3, i + 1, time, 9)).append("steps(0,4)=4 ");
            time += 13;
        }
        run.append("writer(0,0)=1 writer(0,1)=40 writer(0,3)=10 writer(0,4)=0 writer(0,5)=3 writer(0,6)=3 writer(0,7)=3 lone(0)=4 ");
        Script.run("the longest scan, its last two collects agree", run.toString(),
            "steps(0,20)=4 photo(9,0)=0 photo(9,3)=44 photo(9,4)=NONE photo(9,7)=7 photo(9,8)=8 photo(9,9)=9 photo(9,10)=117 reads(43,1)=44 reads(44,1)=NONE reads(44,0)=1 reads(45,2)=44 reads(44,2)=8 reads(99,2)=44");
        Script.run("the longest scan, lent at last", run.toString(), write(3, 99, time, 9),
            "steps(0,20)=4 photo(10,0)=0 photo(10,3)=44 photo(10,4)=3 photo(10,7)=7 photo(10,9)=9 count(5)=1");
    }

    private static String write(int p, int value, int time, int steps) {
        return "writes(" + p + "," + value + ")=" + time + " steps(" + p + ",20)=" + steps + " ";
    }

    /** By two cells: cell 1 is written 1, 2, 3 .. */
    private static String writeOften(int often, int time) {
        StringBuilder run = new StringBuilder();
        for (int i = 1; i <= often; i++) {
            run.append(write(1, i, time + 5 * (i - 1), 5));
        }
        return run.toString();
    }
}
