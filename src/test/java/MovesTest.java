/** Promises 15 to 18: sees, forget, which, ask. */
public final class MovesTest {
    public static void main(String[] args) {
        sees();
        forget();
        which();
        ask();
        askThatCannotTell();
        askByEachNAndWrap();
        Due.end();
    }

    private static void sees() {
        Script.run("sees: numbers",
            "sees(0,1,1)=BAD sees(5,1,1)=BAD sees(1,0,1)=BAD sees(1,5,1)=BAD sees(1,1,-1)=BAD sees(1,1,100)=BAD sees(MOST,1,1)=BAD sees(1,LEAST,1)=BAD sees(1,1,MOST)=BAD count(9)=0",
            "sees(1,1,0)=1 sees(4,4,99)=2 count(9)=2");
        Script.run("sees: six at most, BAD ahead of FULL",
            "sees(1,1,6)=1 sees(1,1,6)=2 sees(1,1,6)=3 sees(1,1,6)=4 sees(1,1,6)=5 sees(1,1,6)=6 count(9)=6 sees(1,1,6)=FULL sees(1,1,100)=BAD sees(0,1,6)=BAD count(9)=6 which()=15",
            "forget()=6 sees(1,1,6)=1");
    }

    private static void forget() {
        Script.run("forget", "forget()=0 sees(1,1,7)=1 which()=0 sees(2,2,2)=2 forget()=2 count(9)=0 which()=15 forget()=0 sees(1,4,9)=1 which()=2");
    }

    private static void which() {
        Script.run("which: one by one",
            "begins(2,3,0)=2 which()=15 sees(1,4,4)=1 which()=1 forget()=1 sees(1,4,6)=1 which()=2 forget()=1 sees(1,4,8)=1 which()=4 forget()=1 sees(1,4,10)=1 which()=8 forget()=1 sees(1,4,5)=1 which()=0");
        Script.run("which: all that was SEEN",
            "begins(2,3,0)=2 sees(1,2,8)=1 which()=12 sees(1,1,4)=2 which()=12 sees(1,4,8)=3 which()=4 sees(1,4,10)=4 which()=0");
        Script.run("which: by N and WRAP as they are now",
            "begins(2,3,0)=2 begins(2,3,2)=2 sees(1,4,4)=1 which()=15 undo()=1 count(9)=1 which()=1 undo()=0 count(0)=3 which()=0");
        Script.run("which: kept MOVES do not matter", "begins(2,1,0)=2 sees(1,4,8)=1 which()=4 scans(0)=0 steps(0,3)=3 which()=4");
    }

    private static void ask() {
        Script.run("ask: by two cells 1 to 3 tells all four apart, less does not",
            "begins(2,2,0)=2 ask()=13 sees(1,2,8)=1 which()=12 ask()=13 sees(1,1,4)=2 ask()=13");
        Script.run("ask: NONE, if one fits or none",
            "begins(2,2,0)=2 sees(1,4,6)=1 which()=2 ask()=NONE sees(1,4,8)=2 which()=0 ask()=NONE");
        Script.run("ask: begins clears what was SEEN", "begins(2,2,0)=2 sees(1,4,6)=1 ask()=NONE begins(2,2,0)=2 ask()=13");
    }

    /** By WRAP 2 no a and b tell MOVES of 3 and 4 apart: still two fit, so the least a and b is asked. */
    private static void askThatCannotTell() {
        Script.run("ask: of several the least",
            "begins(2,2,2)=2 ask()=12 sees(1,2,8)=1 which()=12 ask()=11 sees(1,1,4)=2 which()=12 ask()=11",
            "begins(2,2,2)=2 sees(1,3,6)=1 which()=14 ask()=12");
    }

    private static void askByEachNAndWrap() {
        LentViews x = new LentViews();
        for (int n = 2; n <= 4; n++) {
            for (int wrap = 0; wrap <= 8; wrap++) {
                if (wrap != 1) {
                    x.begins(n, 1, wrap);
                    Due.is("ask() by N " + n + ", WRAP " + wrap, x.ask(), askByHand(x));
                }
            }
        }
    }

    /** The plain words of the document, by trial() alone, for all four MOVES. */
    private static int askByHand(LentViews x) {
        int best = LentViews.NONE;
        int least = 5;
        for (int a = 1; a <= 4; a++) {
            for (int b = 1; b <= 4; b++) {
                int most = 0;
                for (int m = 1; m <= 4; m++) {
                    int alike = 0;
                    for (int o = 1; o <= 4; o++) {
                        alike += x.trial(m, a, b) == x.trial(o, a, b) ? 1 : 0;
                    }
                    most = Math.max(most, alike);
                }
                if (most < least) {
                    least = most;
                    best = 10 * a + b;
                }
            }
        }
        return best;
    }
}
