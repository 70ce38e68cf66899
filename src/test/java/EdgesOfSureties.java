/** Promises 25 to 34: boxes, sureties, hearings, the seed. */
final class EdgesOfSureties {
    private EdgesOfSureties() {
    }

    static void run() {
        risk();
        strict();
        surety();
        bail();
        call();
        back();
        suretyOf();
        hearing();
        heard();
        seed();
    }

    private static void risk() {
        ReleaseTerms x = Edges.edge("Promise 25", "RISK by r (0 to 10), n (1 to 9), k (0 to 9).");
        Edges.is("0, 1, 0", x.risk(0, 1, 0, 0), 1);
        Edges.is("10, 9, 9", x.risk(10, 9, 9, 0), 1);
        Edges.is("more than there are days", x.risk(10, 1, 2, 0), 0);
        Edges.is("of 1", x.risk(10, 1, 2, 1), 1);
        Edges.is("nine of nine", x.risk(3, 9, 9, 0), 19683);
        Edges.is("of 10 to the 9", x.risk(3, 9, 9, 1), 1000000000);
        x = Edges.edge("Promise 25", "BEYOND: r, n, k, part.");
        Edges.within(x, "r", 0, 10, (o, v) -> o.risk(v, 1, 0, 0));
        Edges.within(x, "n", 1, 9, (o, v) -> o.risk(0, v, 0, 0));
        Edges.within(x, "k", 0, 9, (o, v) -> o.risk(0, 1, v, 0));
        Edges.within(x, "part", 0, 1, (o, v) -> o.risk(0, 1, 0, v));
    }

    private static void strict() {
        ReleaseTerms x = Edges.edge("Promise 26", "The least k (1 to 9) for which RISK by r and n is a in 100 "
                + "(a 0 to 100) or less. BEYOND. NONE.");
        Edges.is("not 0, though that were certain", x.strict(3, 5, 100), 1);
        Edges.is("1 by 10 is 10 in 100", x.strict(1, 1, 10), 1);
        Edges.is("and not 9 in 100", x.strict(1, 1, 9), 2);
        Edges.is("51 by 100 is 51 in 100", x.strict(3, 2, 51), 1);
        Edges.is("and not 50 in 100", x.strict(3, 2, 50), 2);
        Edges.is("never a cry", x.strict(0, 9, 0), 1);
        Edges.is("9 of 8 never have one", x.strict(10, 8, 99), 9);
        Edges.is("9 of 9 always have one", x.strict(10, 9, 99), Due.NONE);
        Edges.is("but that is 100 in 100", x.strict(10, 9, 100), 1);
        Edges.is("1 by 10 to the 9 is not 0 in 100", x.strict(1, 9, 0), Due.NONE);
        Edges.is("9 by 10 to the 9: 0.387", x.strict(9, 9, 38), Due.NONE);
        Edges.is("39 in 100 are more", x.strict(9, 9, 39), 9);
        Edges.within(x, "r", 0, 10, (o, v) -> o.strict(v, 1, 0));
        Edges.within(x, "n", 1, 9, (o, v) -> o.strict(0, v, 0));
        Edges.within(x, "a", 0, 100, (o, v) -> o.strict(0, 1, v));
    }

    private static void surety() {
        ReleaseTerms x = Edges.edge("Promise 27", "A SURETY has ROOM and BACKS a set of PERSONS: 1. BEYOND.");
        Edges.is("the greatest", x.surety(4, 9999, 63), 1);
        Edges.is("the least", x.surety(4, 0, 0), 1);
        Edges.is("the least room", x.suretyOf(4, 0), 0);
        Edges.is("the empty set", x.suretyOf(4, 1), 0);
        Edges.within(x, "surety", 0, 4, (o, v) -> o.surety(v, 0, 0));
        Edges.within(x, "room", 0, 9999, (o, v) -> o.surety(0, v, 0));
        Edges.within(x, "persons", 0, 63, (o, v) -> o.surety(0, 0, v));
        x = Edges.edge("Promise 27", "STATE: something is GIVEN by them.");
        x.surety(0, 1, 1);
        x.surety(1, 9, 1);
        x.bail(0, 1);
        x.call(0);
        Edges.is("one is something", x.surety(0, 5, 5), Due.STATE);
        Edges.is("nothing was needed of the next", x.surety(1, 5, 5), 1);
        x.back(0);
        Edges.is("it is back", x.surety(0, 5, 5), 1);
    }

    private static void bail() {
        ReleaseTerms x = Edges.edge("Promise 28", "BAIL of a PERSON becomes v: what it was. BEYOND.");
        Edges.is("0 at first", x.bail(5, 9999), 0);
        Edges.is("the greatest", x.bail(5, 0), 9999);
        Edges.is("the least", x.bail(5, 7), 0);
        Edges.within(x, "person", 0, 5, (o, v) -> o.bail(v, 0));
        Edges.within(x, "v", 0, 9999, (o, v) -> o.bail(0, v));
        x = Edges.edge("Promise 28", "STATE: something is GIVEN for them.");
        x.surety(4, 1, 2);
        x.bail(1, 9999);
        Edges.is("nearly all is lacking", x.call(1), 9998);
        Edges.is("one is something", x.bail(1, 5), Due.STATE);
        Edges.is("for another person nothing is", x.bail(0, 5), 0);
        x.back(1);
        Edges.is("it is back", x.bail(1, 5), 9999);
        x.surety(4, 0, 2);
        Edges.is("called, but nobody has room", x.call(1), 5);
        Edges.is("so nothing is given", x.bail(1, 6), 5);
    }

    private static void call() {
        ReleaseTerms x = Edges.edge("Promise 29", "CALLED: what is lacking still (0: all of BAIL is GIVEN). BEYOND.");
        Edges.is("no bail", x.call(0), 0);
        x.bail(0, 10);
        Edges.is("nobody backs them", x.call(0), 10);
        x.surety(2, 9, 1);
        Edges.is("one is lacking", x.call(0), 1);
        x.back(0);
        x.surety(2, 10, 1);
        Edges.is("just enough", x.call(0), 0);
        Edges.within(x, "person", 0, 5, ReleaseTerms::call);
        x = Edges.edge("Promise 29", "STATE: something is GIVEN for them.");
        x.surety(0, 5, 3);
        x.bail(0, 6);
        Edges.is("one is lacking", x.call(0), 1);
        Edges.is("called again", x.call(0), Due.STATE);
        x.surety(1, 5, 3);
        Edges.is("even if there is room now", x.call(0), Due.STATE);
        Edges.is("nothing came of it", x.suretyOf(1, 0), 5);
        Edges.is("another person", x.call(1), 0);
        x.back(0);
        Edges.is("anew", x.call(0), 0);
        x.back(0);
        x.bail(0, 1);
        Edges.is("one", x.call(0), 0);
        Edges.is("one is something", x.call(0), Due.STATE);
    }

    private static void back() {
        ReleaseTerms x = Edges.edge("Promise 30", "BACK: how much comes back. BEYOND.");
        Edges.is("nothing was given", x.back(0), 0);
        x.surety(0, 9999, 63);
        x.surety(1, 9999, 63);
        x.bail(0, 9999);
        x.bail(5, 9999);
        x.call(5);
        x.call(0);
        Edges.is("no room is left", x.many(6), 0);
        Edges.is("all of it", x.back(5), 9999);
        Edges.is("no more", x.back(5), 0);
        Edges.is("room again", x.many(6), 9999);
        Edges.within(x, "person", 0, 5, ReleaseTerms::back);
        Edges.is("no finding by nothing", x.status(-1), 4);
    }

    private static void suretyOf() {
        ReleaseTerms x = Edges.edge("Promise 31", "Of a SURETY: what 0 ROOM, 1 PERSONS whom one BACKS, "
                + "2 + k GIVEN for PERSON k. BEYOND.");
        x.surety(4, 100, 63);
        for (int person = 0; person < 6; person++) {
            x.bail(person, person + 1);
            x.call(person);
        }
        int[] want = {79, 63, 1, 2, 3, 4, 5, 6};
        for (int what = 0; what < 8; what++) {
            Edges.is("what " + what, x.suretyOf(4, what), want[what]);
        }
        Edges.within(x, "surety", 0, 4, (o, v) -> o.suretyOf(v, 7));
        Edges.within(x, "what", 0, 7, (o, v) -> o.suretyOf(0, v));
    }

    private static void hearing() {
        ReleaseTerms x = Edges.edge("Promise 32", "The HEARING of a PERSON is on a DAY, or moves to it: "
                + "how many are on it then. BEYOND.");
        Edges.is("one", x.hearing(0, 0), 1);
        Edges.is("where it is", x.hearing(0, 0), 1);
        Edges.is("two", x.hearing(5, 0), 2);
        Edges.is("it moves", x.hearing(0, 29), 1);
        Edges.is("one is left", x.hearing(5, 0), 1);
        Edges.within(x, "person", 0, 5, (o, v) -> o.hearing(v, 9));
        Edges.within(x, "day", 0, 29, (o, v) -> o.hearing(0, v));
        x = Edges.edge("Promise 32", "FULL: 2 others are on it.");
        x.hearing(0, 7);
        x.hearing(1, 7);
        Edges.is("a third", x.hearing(2, 7), Due.FULL);
        Edges.is("none of it", x.heard(2), Due.NONE);
        x.hearing(2, 8);
        Edges.is("a third that would move", x.hearing(2, 7), Due.FULL);
        Edges.is("it stays", x.heard(2), 8);
        Edges.is("one of the two is there already", x.hearing(1, 7), 2);
        x.hearing(0, 8);
        Edges.is("one went", x.hearing(2, 7), 2);
    }

    private static void heard() {
        ReleaseTerms x = Edges.edge("Promise 33", "The DAY of the HEARING of a PERSON. BEYOND. NONE.");
        Edges.is("none", x.heard(0), Due.NONE);
        x.hearing(0, 0);
        Edges.is("day 0 is one", x.heard(0), 0);
        Edges.is("not of another person", x.heard(1), Due.NONE);
        x.hearing(0, 29);
        Edges.is("moved", x.heard(0), 29);
        Edges.within(x, "person", 0, 5, ReleaseTerms::heard);
    }

    private static void seed() {
        ReleaseTerms x = Edges.edge("Promise 34", "z becomes v: what it was.");
        Edges.is("1 at first", x.seed(Integer.MIN_VALUE), 1);
        Edges.is("the least int", x.seed(Integer.MAX_VALUE), Integer.MIN_VALUE);
        Edges.is("the greatest", x.seed(0), Integer.MAX_VALUE);
        Edges.is("0", x.seed(-1000007), 0);
        Edges.is("what looks like a finding", x.seed(3), -1000007);
        Edges.is("is none", x.status(-1), 0);
        x.seed(Integer.MIN_VALUE);
        x.drift(0, 0, 1);
        int one = Integer.MIN_VALUE * 1103515245 + 12345;
        Edges.is("z wraps around", x.seed(0), one * 1103515245 + 12345);
    }
}
