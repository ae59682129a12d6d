/** The boundary cases of promises 14 to 20: TRIAL, SEEN, WHICH, ASK, IMAGES, and what is gone when BEGUN. Each method is of one sentence. */
public final class GuessingEdgeTest {
    public static void main(String[] args) {
        trialOfAllNumbers();
        trialIsBoundByNothingThatIs();
        seenSixAtMost();
        seenOfAnyReads();
        forgetOfNone();
        whichOfNoneAndAll();
        whichAndAskOfEachAnswer();
        askWhereOneCanBeAtMost();
        askTheLeastOfSeveral();
        imagesNoughtAndOne();
        imagesKeepNothingElse();
        nothingCanBeUndoneBehindBack();
        begunAnewWhatIsGone();
        begunThatIsRefusedLeavesAll();
        begunThatIsUndone();
        Due.end();
    }

    /** "MOVES .. a STEPS (1 to 4) of WRITER 0, b STEPS (1 to 4) of WRITER 1": all there are, by all N and WRAP. */
    private static void trialOfAllNumbers() {
        for (int n = 2; n <= 4; n++) {
            for (int wrap = 0; wrap <= 8; wrap++) {
                LentViews x = new LentViews();
                Model model = new Model();
                Due.is("begins() by WRAP " + wrap, x.begins(n, 1, wrap), model.begins(n, 1, wrap));
                for (int i = 0; i < 64 && wrap != 1; i++) {
                    int moves = 1 + i / 16, a = 1 + i / 4 % 4, b = 1 + i % 4;
                    Due.is("N " + n + ", WRAP " + wrap + ": trial(" + moves + ", " + a + ", " + b + ")", x.trial(moves, a, b), model.trial(moves, a, b));
                }
            }
        }
        Script.run("the least and the greatest", "begins(4,2,0)=4 trial(1,1,1)=8 trial(4,1,4)=20 trial(4,4,1)=8 trial(1,4,4)=8 trial(0,1,1)=BAD trial(5,1,1)=BAD trial(1,0,1)=BAD trial(1,5,1)=BAD trial(1,1,0)=BAD trial(1,1,5)=BAD");
    }

    /** "all as at first": a TRIAL is not refused where acts are, nor where 24 were begun. */
    private static void trialIsBoundByNothingThatIs() {
        for (States state : States.values()) {
            LentViews x = state.make();
            LentViews fresh = new LentViews();
            fresh.begins(x.count(0), 1, x.count(2));
            for (int moves = 1; moves <= 4; moves++) {
                Due.is(state + ": trial(" + moves + ", 1, 4) as at first", x.trial(moves, 1, 4), fresh.trial(moves, 1, 4));
            }
            Script.compareToTheEnd(state + ": trials change nothing", x, state.make());
        }
    }

    /** "SEEN (6 at most)", "FULL: 6". */
    private static void seenSixAtMost() {
        Script.run("six, the same or not", "begins(2,2,0)=2 count(9)=0 sees(1,4,8)=1 sees(1,4,8)=2 sees(1,2,8)=3 sees(1,1,4)=4 sees(4,4,4)=5 which()=4 sees(1,3,8)=6 count(9)=6 which()=4 sees(1,3,8)=FULL sees(1,4,6)=FULL count(9)=6 which()=4");
        Script.run("the sixth counts", "begins(2,2,0)=2 sees(1,1,4)=1 sees(1,1,4)=2 sees(1,1,4)=3 sees(1,1,4)=4 sees(1,1,4)=5 which()=15 sees(1,4,10)=6 which()=8");
        Script.run("there is room again behind forget()", "sees(1,1,0)=1 sees(1,1,0)=2 sees(1,1,0)=3 sees(1,1,0)=4 sees(1,1,0)=5 sees(1,1,0)=6 sees(1,1,6)=FULL which()=0 forget()=6 which()=15 sees(1,1,6)=1 which()=15");
        Script.run("there is room again, BEGUN anew", "sees(1,1,0)=1 sees(1,1,0)=2 sees(1,1,0)=3 sees(1,1,0)=4 sees(1,1,0)=5 sees(1,1,0)=6 begins(3,2,0)=3 count(9)=0 sees(1,1,6)=1");
    }

    /** "(a, b 1 .. 4, x 0 .. 99)". */
    private static void seenOfAnyReads() {
        Script.run("x", "sees(1,1,0)=1 which()=0 forget()=1 sees(1,1,99)=1 which()=0 sees(1,1,-1)=BAD sees(1,1,100)=BAD sees(1,1,LEAST)=BAD sees(1,1,MOST)=BAD count(9)=1");
        Script.run("a and b", "sees(1,1,6)=1 sees(4,4,6)=2 sees(0,4,6)=BAD sees(5,4,6)=BAD sees(4,0,6)=BAD sees(4,5,6)=BAD sees(LEAST,1,6)=BAD sees(MOST,1,6)=BAD sees(1,LEAST,6)=BAD sees(1,MOST,6)=BAD count(9)=2 which()=15");
    }

    /** "Nothing is SEEN: how much was." */
    private static void forgetOfNone() {
        Script.run("none, one, six", "forget()=0 forget()=0 sees(1,1,1)=1 forget()=1 forget()=0 sees(1,1,1)=1 sees(1,1,1)=2 sees(1,1,1)=3 sees(1,1,1)=4 sees(1,1,1)=5 sees(1,1,1)=6 forget()=6 forget()=0 count(9)=0 which()=15");
    }

    /** "MOVES (1 to 4) by which all that was SEEN would be so, as bits (bit 0: 1)": all of none SEEN, none at all. */
    private static void whichOfNoneAndAll() {
        Script.run("which", "which()=15 sees(4,4,6)=1 which()=15 sees(1,4,6)=2 which()=1 sees(1,4,9)=3 which()=0 ask()=NONE forget()=3 sees(1,4,15)=1 which()=8 forget()=1 sees(1,4,12)=1 which()=4 forget()=1 sees(1,4,9)=1 which()=2");
    }

    private static void whichAndAskOfEachAnswer() {
        for (int n = 2; n <= 4; n++) {
            for (int wrap = 0; wrap <= 8; wrap++) {
                for (int i = 0; i < 64 && wrap != 1; i++) {
                    LentViews x = new LentViews();
                    Model model = new Model();
                    x.begins(n, 1, wrap);
                    model.begins(n, 1, wrap);
                    int a = 1 + i / 4 % 4, b = 1 + i % 4;
                    int reads = x.trial(1 + i / 16, a, b);
                    x.sees(a, b, reads);
                    model.sees(a, b, reads);
                    String told = "N " + n + ", WRAP " + wrap + ", SEEN " + a + " " + b + " " + reads;
                    Due.is(told + ": which()", x.which(), model.which());
                    Due.is(told + ": ask()", x.ask(), model.ask());
                }
            }
        }
    }

    /** "NONE (one can be at most)": none, one; two and more are asked for. */
    private static void askWhereOneCanBeAtMost() {
        Script.run("none, one, two, four", "begins(2,2,0)=2 which()=15 ask()=13 sees(1,2,8)=1 which()=12 ask()=13 sees(1,4,8)=2 which()=4 ask()=NONE sees(1,4,10)=3 which()=0 ask()=NONE forget()=3 ask()=13");
        Script.run("each one alone", "begins(2,2,0)=2 sees(1,4,4)=1 which()=1 ask()=NONE forget()=1 sees(1,4,6)=1 which()=2 ask()=NONE forget()=1 sees(1,4,10)=1 which()=8 ask()=NONE");
    }

    /** "of several the least a, then b: 10 a and b": the very least, where no a and b is better than another. */
    private static void askTheLeastOfSeveral() {
        Script.run("two that cannot be told apart", "begins(2,2,2)=2 sees(1,2,8)=1 which()=12 ask()=11");
        Script.run("the least b that tells all apart", "begins(2,2,0)=2 trial(3,1,2)=8 trial(4,1,2)=8 trial(3,1,3)=8 trial(4,1,3)=10 trial(3,1,4)=8 trial(4,1,4)=10 ask()=13");
    }

    /** "IMAGES 0, 1", "STATE: none was kept". */
    private static void imagesNoughtAndOne() {
        Script.run("none", "back(0)=STATE back(1)=STATE keep(2)=BAD keep(-1)=BAD keep(LEAST)=BAD keep(MOST)=BAD back(2)=BAD back(-1)=BAD back(LEAST)=BAD back(MOST)=BAD back(0)=STATE back(1)=STATE");
        Script.run("one", "scans(0)=0 keep(0)=0 back(1)=STATE back(0)=0 begins(3,2,0)=3 scans(0)=0 keep(1)=0 back(0)=STATE back(1)=0");
        Script.run("both, each its own, kept over again", "scans(0)=0 steps(0,1)=1 keep(0)=1 steps(0,1)=1 keep(1)=2 steps(0,1)=1 back(0)=1 writer(0,1)=1 back(1)=2 writer(0,1)=2 steps(0,3)=3 keep(0)=5 back(1)=2 back(0)=5 writer(0,1)=5 back(0)=5");
        Script.run("what is at first can be kept", "keep(0)=0 scans(0)=0 steps(0,20)=6 back(0)=0 count(4)=0 count(8)=0 writer(0,0)=0");
    }

    /** "IMAGES 0, 1 keep all that 1 tells; nothing else". */
    private static void imagesKeepNothingElse() {
        Script.run("what was SEEN is not kept", "sees(1,4,9)=1 keep(0)=0 forget()=1 sees(1,4,6)=1 sees(1,1,6)=2 back(0)=0 count(9)=2 which()=1");
        Script.run("what may be UNDONE is not kept", "scans(0)=0 steps(0,1)=1 keep(0)=1 count(10)=2 back(0)=1 count(10)=0 steps(0,1)=1 count(10)=1");
        Script.run("an image does not keep images", "keep(0)=0 scans(0)=0 steps(0,2)=2 keep(1)=2 back(0)=0 back(1)=2 writer(0,1)=2");
    }

    /** "(nothing can be UNDONE behind back())": neither of none, one nor five; what is done behind it can. */
    private static void nothingCanBeUndoneBehindBack() {
        Script.run("none before", "keep(0)=0 back(0)=0 undo()=STATE count(10)=0");
        Script.run("five before", "keep(1)=0 scans(0)=0 steps(0,1)=1 steps(0,1)=1 steps(0,1)=1 steps(0,1)=1 count(10)=5 back(1)=0 count(10)=0 undo()=STATE writer(0,0)=0");
        Script.run("five behind it, and no more",
            "scans(0)=0 steps(0,1)=1 keep(0)=1 steps(0,1)=1 back(0)=1 scans(1)=1 steps(1,1)=1 steps(1,1)=1 steps(1,1)=1 steps(1,1)=1 count(10)=5 undo()=4 undo()=3 undo()=2 undo()=1 undo()=0 undo()=STATE writer(1,0)=0 writer(0,1)=1 count(3)=1");
        Script.run("back() itself is not undone", "scans(0)=0 keep(0)=0 steps(0,2)=2 back(0)=0 scans(1)=0 undo()=0 writer(0,1)=0 writer(0,0)=1 undo()=STATE");
    }

    /** "(BEGUN: what was SEEN, IMAGES are gone.)" */
    private static void begunAnewWhatIsGone() {
        Script.run("six SEEN and both images, BEGUN by the same numbers", "sees(1,1,0)=1 sees(1,1,0)=2 sees(1,1,0)=3 sees(1,1,0)=4 sees(1,1,0)=5 sees(1,1,0)=6 keep(0)=0 keep(1)=0 begins(3,2,0)=3 count(9)=0 which()=15 forget()=0 back(0)=STATE back(1)=STATE");
        Script.run("image 0 alone", "keep(0)=0 begins(2,1,0)=2 back(0)=STATE");
        Script.run("image 1 alone", "keep(1)=0 begins(2,1,0)=2 back(1)=STATE");
        Script.run("what may be UNDONE is not gone", "scans(0)=0 begins(2,1,0)=2 begins(4,1,0)=4 count(10)=3 undo()=2 count(0)=2 undo()=1 count(0)=3 writer(0,0)=1 undo()=0 writer(0,0)=0");
    }

    private static void begunThatIsRefusedLeavesAll() {
        Script.run("refused", "scans(0)=0 steps(0,4)=4 sees(1,4,9)=1 keep(0)=4 keep(1)=4 begins(3,2,1)=BAD begins(5,2,0)=BAD begins(3,0,0)=BAD begins(3,2,9)=BAD count(9)=1 which()=2 writer(0,1)=4 count(10)=2 back(0)=4 back(1)=4");
    }

    /** "all that 1 tells is as ahead of it": what was SEEN and the images are told in 2. */
    private static void begunThatIsUndone() {
        Script.run("undone", "scans(0)=0 steps(0,4)=4 sees(1,4,9)=1 keep(0)=4 keep(1)=4 begins(2,1,0)=2 undo()=2 writer(0,1)=4 count(0)=3 count(9)=0 which()=15 back(0)=STATE back(1)=STATE");
    }
}
