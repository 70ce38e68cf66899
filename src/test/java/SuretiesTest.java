/** Promises 25 to 34: risk, strict, surety, bail, call, back, suretyOf, hearing, heard, seed. */
public final class SuretiesTest {
    public static void main(String[] args) {
        risk();
        strict();
        surety();
        bail();
        call();
        back();
        suretyOf();
        hearing();
        heard();
        seed();
        Due.end("SuretiesTest");
    }

    private static void isRisk(ReleaseTerms x, int r, int n, int k, int above, int below) {
        String call = "risk(" + r + ", " + n + ", " + k + ", ";
        Due.due(call + "0)", x.risk(r, n, k, 0), above);
        Due.due(call + "1)", x.risk(r, n, k, 1), below);
    }

    private static void risk() {
        ReleaseTerms x = new ReleaseTerms();
        isRisk(x, 3, 1, 1, 3, 10);
        isRisk(x, 5, 1, 1, 1, 2);
        isRisk(x, 5, 2, 1, 3, 4);
        isRisk(x, 5, 9, 5, 1, 2);
        isRisk(x, 1, 9, 9, 1, 1000000000);
        isRisk(x, 9, 9, 1, 999999999, 1000000000);
        isRisk(x, 7, 4, 0, 1, 1);
        isRisk(x, 0, 9, 0, 1, 1);
        isRisk(x, 0, 9, 1, 0, 1);
        isRisk(x, 10, 9, 9, 1, 1);
        isRisk(x, 10, 8, 9, 0, 1);
        isRisk(x, 4, 3, 2, 44, 125);
        Due.due("r 11", x.risk(11, 1, 0, 0), Due.BEYOND);
        Due.due("n 0", x.risk(1, 0, 0, 0), Due.BEYOND);
        Due.due("n 10", x.risk(1, 10, 0, 0), Due.BEYOND);
        Due.due("k 10", x.risk(1, 1, 10, 0), Due.BEYOND);
        Due.due("part 2", x.risk(1, 1, 1, 2), Due.BEYOND);
        for (int wrong : Due.FAR_OUT) {
            Due.due("r " + wrong, x.risk(wrong, 1, 0, 0), Due.BEYOND);
            Due.due("n " + wrong, x.risk(0, wrong, 0, 0), Due.BEYOND);
            Due.due("k " + wrong, x.risk(0, 1, wrong, 0), Due.BEYOND);
            Due.due("part " + wrong, x.risk(0, 1, 0, wrong), Due.BEYOND);
        }
    }

    private static void strict() {
        ReleaseTerms x = new ReleaseTerms();
        Due.due("a fraction that is just as great", x.strict(5, 2, 25), 2);
        Due.due("a fraction that is greater", x.strict(5, 2, 24), 3);
        Due.due("half of nine", x.strict(5, 9, 50), 5);
        Due.due("just less", x.strict(5, 9, 49), 6);
        Due.due("never a cry", x.strict(0, 9, 0), 1);
        Due.due("always a cry", x.strict(10, 9, 99), Due.NONE);
        Due.due("always a cry, all is well", x.strict(10, 9, 100), 1);
        Due.due("nearly none", x.strict(1, 9, 0), Due.NONE);
        Due.due("more than there are days", x.strict(1, 3, 0), 4);
        Due.due("r 11", x.strict(11, 1, 0), Due.BEYOND);
        Due.due("n 0", x.strict(1, 0, 0), Due.BEYOND);
        Due.due("n 10", x.strict(1, 10, 0), Due.BEYOND);
        Due.due("a 101", x.strict(1, 1, 101), Due.BEYOND);
        for (int wrong : Due.FAR_OUT) {
            Due.due("r " + wrong, x.strict(wrong, 1, 0), Due.BEYOND);
            Due.due("n " + wrong, x.strict(0, wrong, 0), Due.BEYOND);
            Due.due("a " + wrong, x.strict(0, 1, wrong), Due.BEYOND);
        }
    }

    private static void surety() {
        ReleaseTerms x = new ReleaseTerms();
        Due.due("surety(4, 9999, 63)", x.surety(4, 9999, 63), 1);
        Due.due("surety(0, 0, 0)", x.surety(0, 0, 0), 1);
        Due.due("its room", x.suretyOf(4, 0), 9999);
        Due.due("whom they back", x.suretyOf(4, 1), 63);
        Due.due("anew", x.surety(4, 7, 2), 1);
        Due.due("its room anew", x.many(6), 7);
        x.bail(1, 5);
        x.call(1);
        Due.due("something is given", x.surety(4, 7, 2), Due.STATE);
        Due.due("BEYOND is asked ahead of STATE", x.surety(4, 10000, 2), Due.BEYOND);
        Due.due("another one", x.surety(3, 7, 2), 1);
        x.back(1);
        Due.due("nothing is given any more", x.surety(4, 8, 2), 1);
        x.bail(1, 1);
        x.surety(3, 1, 1);
        x.call(1);
        Due.due("one is something", x.surety(4, 8, 2), Due.STATE);
        Due.due("for them too", x.bail(1, 1), Due.STATE);
        Due.due("and may not be called for", x.call(1), Due.STATE);
        x.back(1);
        Due.due("surety 5", x.surety(5, 0, 0), Due.BEYOND);
        Due.due("room 10000", x.surety(0, 10000, 0), Due.BEYOND);
        Due.due("persons 64", x.surety(0, 0, 64), Due.BEYOND);
        for (int wrong : Due.FAR_OUT) {
            Due.due("surety " + wrong, x.surety(wrong, 0, 0), Due.BEYOND);
            Due.due("persons " + wrong, x.surety(0, 0, wrong), Due.BEYOND);
            if (wrong != 1000) {
                Due.due("room " + wrong, x.surety(0, wrong, 0), Due.BEYOND);
            }
        }
    }

    private static void bail() {
        ReleaseTerms x = new ReleaseTerms();
        Due.due("bail(5, 9999)", x.bail(5, 9999), 0);
        Due.due("bail(5, 10)", x.bail(5, 10), 9999);
        Due.due("another person", x.bail(0, 0), 0);
        x.surety(2, 3, 32);
        x.call(5);
        Due.due("something is given", x.bail(5, 1), Due.STATE);
        Due.due("BEYOND is asked ahead of STATE", x.bail(5, 10000), Due.BEYOND);
        x.back(5);
        Due.due("it stays by a finding", x.bail(5, 1), 10);
        Due.due("person 6", x.bail(6, 0), Due.BEYOND);
        for (int wrong : Due.FAR_OUT) {
            Due.due("person " + wrong, x.bail(wrong, 0), Due.BEYOND);
            if (wrong != 1000) {
                Due.due("bail of " + wrong, x.bail(0, wrong), Due.BEYOND);
            }
        }
    }

    private static void call() {
        ReleaseTerms x = new ReleaseTerms();
        x.surety(0, 10, 1);
        x.surety(1, 20, 2);
        x.surety(2, 30, 3);
        x.surety(4, 40, 3);
        Due.due("no bail", x.call(0), 0);
        Due.due("no bail twice", x.call(0), 0);
        x.bail(0, 50);
        Due.due("enough", x.call(0), 0);
        int[] given = {10, 0, 30, 0, 10};
        int[] room = {0, 20, 0, 0, 30};
        for (int s = 0; s < 5; s++) {
            Due.due("given by " + s, x.suretyOf(s, 2), given[s]);
            Due.due("room of " + s, x.suretyOf(s, 0), room[s]);
        }
        Due.due("called twice", x.call(0), Due.STATE);
        x.bail(1, 60);
        Due.due("too little", x.call(1), 10);
        Due.due("given for another person by 1", x.suretyOf(1, 3), 20);
        Due.due("given for another person by 4", x.suretyOf(4, 3), 30);
        x.bail(2, 5);
        Due.due("nobody backs them", x.call(2), 5);
        Due.due("nobody gave, so it can be called again", x.call(2), 5);
        Due.due("call(6)", x.call(6), Due.BEYOND);
        for (int wrong : Due.FAR_OUT) {
            Due.due("call(" + wrong + ")", x.call(wrong), Due.BEYOND);
        }
    }

    private static void back() {
        ReleaseTerms x = new ReleaseTerms();
        Due.due("nothing given", x.back(0), 0);
        x.surety(0, 10, 3);
        x.surety(1, 20, 3);
        x.bail(0, 12);
        x.bail(1, 4);
        x.call(0);
        x.call(1);
        Due.due("back(0)", x.back(0), 12);
        Due.due("room of 0", x.suretyOf(0, 0), 10);
        Due.due("room of 1", x.suretyOf(1, 0), 16);
        Due.due("given for another person stays", x.suretyOf(1, 3), 4);
        Due.due("nothing given for them", x.suretyOf(1, 2), 0);
        Due.due("back(0) again", x.back(0), 0);
        Due.due("bail stays", x.call(0), 0);
        Due.due("and is given again", x.suretyOf(1, 2), 2);
        Due.due("back(6)", x.back(6), Due.BEYOND);
        for (int wrong : Due.FAR_OUT) {
            Due.due("back(" + wrong + ")", x.back(wrong), Due.BEYOND);
        }
    }

    private static void suretyOf() {
        ReleaseTerms x = new ReleaseTerms();
        x.surety(3, 100, 32 + 4);
        x.bail(5, 30);
        x.bail(2, 50);
        x.call(5);
        x.call(2);
        int[] want = {20, 36, 0, 0, 50, 0, 0, 30};
        for (int what = 0; what < 8; what++) {
            Due.due("suretyOf(3, " + what + ")", x.suretyOf(3, what), want[what]);
        }
        Due.due("suretyOf(5, 0)", x.suretyOf(5, 0), Due.BEYOND);
        Due.due("suretyOf(0, 8)", x.suretyOf(0, 8), Due.BEYOND);
        for (int wrong : Due.FAR_OUT) {
            Due.due("suretyOf(" + wrong + ", 0)", x.suretyOf(wrong, 0), Due.BEYOND);
            Due.due("suretyOf(0, " + wrong + ")", x.suretyOf(0, wrong), Due.BEYOND);
        }
    }

    private static void hearing() {
        ReleaseTerms x = new ReleaseTerms();
        Due.due("hearing(0, 29)", x.hearing(0, 29), 1);
        Due.due("hearing(5, 29)", x.hearing(5, 29), 2);
        Due.due("a third", x.hearing(2, 29), Due.FULL);
        Due.due("one of the two moves to where it is", x.hearing(5, 29), 2);
        Due.due("it moves", x.hearing(0, 0), 1);
        Due.due("its day", x.heard(0), 0);
        Due.due("then there is room", x.hearing(2, 29), 2);
        Due.due("the one that moved has no way back", x.hearing(0, 29), Due.FULL);
        Due.due("its day stays", x.heard(0), 0);
        Due.due("BEYOND is asked first", x.hearing(6, 29), Due.BEYOND);
        Due.due("day 30", x.hearing(0, 30), Due.BEYOND);
        Due.due("three hearings", x.many(3), 3);
        for (int wrong : Due.FAR_OUT) {
            Due.due("hearing(" + wrong + ", 0)", x.hearing(wrong, 0), Due.BEYOND);
            Due.due("hearing(0, " + wrong + ")", x.hearing(0, wrong), Due.BEYOND);
        }
    }

    private static void heard() {
        ReleaseTerms x = new ReleaseTerms();
        Due.due("none", x.heard(5), Due.NONE);
        x.hearing(5, 17);
        Due.due("heard(5)", x.heard(5), 17);
        Due.due("another person", x.heard(4), Due.NONE);
        Due.due("heard(6)", x.heard(6), Due.BEYOND);
        for (int wrong : Due.FAR_OUT) {
            Due.due("heard(" + wrong + ")", x.heard(wrong), Due.BEYOND);
        }
    }

    private static void seed() {
        ReleaseTerms x = new ReleaseTerms();
        Due.due("z at first", x.seed(-1000001), 1);
        Due.due("what looks like a finding is none", x.seed(7), -1000001);
        Due.due("no finding", x.status(-1), 0);
        x.seed(Integer.MIN_VALUE);
        x.drift(0, 0, 1);
        int one = Integer.MIN_VALUE * 1103515245 + 12345;
        int other = one * 1103515245 + 12345;
        Due.due("a draw has no sign", x.seenOf(0, 1), (one >>> 8) % 8);
        Due.due("nor has the next", x.seenOf(0, 3), (other >>> 8) % 24);
        Due.due("z behind them", x.seed(0), other);
    }
}
