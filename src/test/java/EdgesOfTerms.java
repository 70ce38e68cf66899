/** Promises 10 to 19: terms. */
final class EdgesOfTerms {
    private EdgesOfTerms() {
    }

    static void run() {
        term();
        termOf();
        span();
        turn();
        change();
        changeFindings();
        bad();
        inForce();
        kept();
        count();
        breach();
    }

    private static void isTerm(ReleaseTerms x, int term, int... want) {
        for (int what = 0; what < want.length; what++) {
            Edges.is("termOf(" + term + ", " + what + ")", x.termOf(term, what), want[what]);
        }
    }

    private static void term() {
        ReleaseTerms x = Edges.edge("Promise 10", "A new TERM with all HOURS and DAYS: its number.");
        Edges.is("the first", x.term(6, 5, 7), 0);
        Edges.is("the second", x.term(0, 0, 0), 1);
        isTerm(x, 0, 6, 5, 7, 0, 23, 0, 29, 3);
        isTerm(x, 1, 0, 0, 0, 0, 23, 0, 29, 0);
        x = Edges.edge("Promise 10", "BEYOND.");
        Edges.within(x, "kind", 0, 6, (o, v) -> o.term(v, 0, 0));
        Edges.within(x, "person", 0, 5, (o, v) -> o.term(0, v, 0));
        Edges.within(x, "place", 0, 7, (o, v) -> o.term(0, 1, v));
        Edges.is("six came", x.many(1), 6);
        x = Edges.edge("Promise 10", "FULL.");
        for (int i = 0; i < 5; i++) {
            Edges.is("of one person", x.term(1, 2, 3), i);
        }
        Edges.is("a sixth", x.term(1, 2, 3), Due.FULL);
        Edges.is("of another person", x.term(1, 3, 3), 5);
        for (int i = 6; i < 12; i++) {
            Edges.is("of two more", x.term(1, 4 + i % 2, 3), i);
        }
        Edges.is("a thirteenth of a person who has none", x.term(1, 0, 3), Due.FULL);
    }

    private static void termOf() {
        ReleaseTerms x = Edges.edge("Promise 11", "Of a TERM: what 0 KIND, 1 PERSON, 2 PLACE, 3 first, 4 last HOUR, "
                + "5 first, 6 last DAY, 7 ASKED. BEYOND.");
        Edges.is("none is there", x.termOf(0, 0), Due.BEYOND);
        x.term(3, 4, 6);
        x.span(0, 0, 7, 9);
        x.span(0, 1, 11, 13);
        isTerm(x, 0, 3, 4, 6, 7, 9, 11, 13, 2);
        x.term(0, 0, 0);
        Edges.within(x, "term", 0, 1, (o, v) -> o.termOf(v, 0));
        Edges.within(x, "what", 0, 7, (o, v) -> o.termOf(0, v));
    }

    private static void span() {
        ReleaseTerms x = Edges.edge("Promise 12", "HOURS (what 0), DAYS (1) of a TERM go from one to one: 1. BEYOND.");
        Edges.is("none is there", x.span(0, 0, 0, 0), Due.BEYOND);
        x.term(2, 0, 0);
        Edges.is("hours", x.span(0, 0, 1, 2), 1);
        Edges.is("days", x.span(0, 1, 24, 29), 1);
        isTerm(x, 0, 2, 0, 0, 1, 2, 24, 29);
        Edges.within(x, "term", 0, 0, (o, v) -> o.span(v, 0, 1, 2));
        Edges.within(x, "what", 0, 1, (o, v) -> o.span(0, v, 5, 6));
        Edges.within(x, "hours: from", 0, 9, (o, v) -> o.span(0, 0, v, 9));
        Edges.within(x, "hours: to", 5, 23, (o, v) -> o.span(0, 0, 5, v));
        Edges.within(x, "days: from", 0, 9, (o, v) -> o.span(0, 1, v, 9));
        Edges.within(x, "days: to", 5, 29, (o, v) -> o.span(0, 1, 5, v));
        isTerm(x, 0, 2, 0, 0, 5, 23, 5, 29);
    }

    private static void turn() {
        ReleaseTerms x = Edges.edge("Promise 13", "A TERM becomes one of another KIND: what it was. BEYOND.");
        Edges.is("none is there", x.turn(0, 0), Due.BEYOND);
        x.term(0, 2, 5);
        x.span(0, 0, 3, 4);
        x.span(0, 1, 5, 6);
        for (int kind = 1; kind < 7; kind++) {
            Edges.is("turn(0, " + kind + ")", x.turn(0, kind), kind - 1);
        }
        isTerm(x, 0, 6, 2, 5, 3, 4, 5, 6, 3);
        Edges.is("the one it is", x.turn(0, 6), 6);
        Edges.is("back to 0", x.turn(0, 0), 6);
        Edges.within(x, "term", 0, 0, (o, v) -> o.turn(v, 3));
        Edges.within(x, "kind", 0, 6, (o, v) -> o.turn(0, v));
    }

    private static void change() {
        ReleaseTerms x = Edges.edge("Promise 14", "A TERM of other words binds from a DAY (1 to 29) on: the first one "
                + "ends on the DAY ahead, and a new one like it, but with a PLACE, goes from that DAY to its last one: "
                + "the new one's number.");
        x.term(5, 3, 1);
        x.span(0, 0, 8, 9);
        Edges.is("from day 29 on", x.change(0, 29, 2), 1);
        isTerm(x, 0, 5, 3, 1, 8, 9, 0, 28);
        isTerm(x, 1, 5, 3, 2, 8, 9, 29, 29);
        Edges.is("from day 1 on", x.change(0, 1, 7), 2);
        isTerm(x, 0, 5, 3, 1, 8, 9, 0, 0);
        isTerm(x, 2, 5, 3, 7, 8, 9, 1, 28);
        Edges.is("a new one again, with the same place", x.change(2, 28, 7), 3);
        isTerm(x, 2, 5, 3, 7, 8, 9, 1, 27);
        isTerm(x, 3, 5, 3, 7, 8, 9, 28, 28);
        x = Edges.edge("Promise 14", "(1 to 29)");
        x.term(0, 0, 0);
        Edges.within(x, "day", 1, 29, (o, v) -> o.change(0, v, 0));
    }

    private static void changeFindings() {
        ReleaseTerms x = Edges.edge("Promise 14", "BEYOND.");
        Edges.is("none is there", x.change(0, 5, 0), Due.BEYOND);
        x.term(0, 0, 0);
        Edges.isBeyond(x, "term", (o, v) -> o.change(v, 5, 0), -1, 1);
        Edges.isBeyond(x, "day", (o, v) -> o.change(0, v, 0), -1, 0, 30);
        Edges.isBeyond(x, "place", (o, v) -> o.change(0, 5, v), -1, 8);
        x = Edges.edge("Promise 14", "STATE: that DAY is not behind its first DAY, or behind its last one.");
        x.term(0, 0, 0);
        x.span(0, 1, 10, 20);
        Edges.is("its first day", x.change(0, 10, 1), Due.STATE);
        Edges.is("the day ahead of it", x.change(0, 9, 1), Due.STATE);
        Edges.is("the day behind its last one", x.change(0, 21, 1), Due.STATE);
        Edges.is("day 29", x.change(0, 29, 1), Due.STATE);
        Edges.is("its last day", x.change(0, 20, 1), 1);
        Edges.is("the day behind its first one", x.change(0, 11, 1), 2);
        Edges.is("a term of one day", x.change(0, 10, 1), Due.STATE);
        Edges.is("and the day behind it", x.change(0, 11, 1), Due.STATE);
        x = Edges.edge("Promise 14", "FULL.");
        for (int i = 0; i < 5; i++) {
            x.term(0, 0, 0);
        }
        Edges.is("a sixth of one person", x.change(0, 5, 1), Due.FULL);
        Edges.is("the first one goes on", x.termOf(0, 6), 29);
        for (int i = 5; i < 12; i++) {
            x.term(0, 1 + i % 2, 0);
        }
        Edges.is("a thirteenth", x.change(11, 5, 1), Due.FULL);
    }

    private static void bad() {
        ReleaseTerms x = Edges.edge("Promise 15", "PLACES that are BAD by a TERM in one of its HOURS, as a set. BEYOND.");
        Edges.is("none is there", x.bad(0), Due.BEYOND);
        x.road(0, 7, true);
        x.term(4, 0, 0);
        x.span(0, 0, 23, 23);
        x.span(0, 1, 29, 29);
        Edges.is("near", x.bad(0), 129);
        Edges.within(x, "term", 0, 0, ReleaseTerms::bad);
        x.turn(0, 2);
        Edges.is("the empty set", x.bad(0), 0);
    }

    private static void inForce() {
        ReleaseTerms x = Edges.edge("Promise 16", "TERMS of a PERSON that are IN FORCE on a DAY, as a set. BEYOND.");
        Edges.is("the empty set", x.inForce(0, 0), 0);
        for (int term = 0; term < 12; term++) {
            x.term(0, term % 3, 0);
        }
        Edges.is("of person 0", x.inForce(0, 0), 1 + 8 + 64 + 512);
        Edges.is("of person 2, the last one too", x.inForce(2, 29), 4 + 32 + 256 + 2048);
        Edges.is("of person 3", x.inForce(3, 0), 0);
        Edges.within(x, "person", 0, 5, (o, v) -> o.inForce(v, 0));
        Edges.within(x, "day", 0, 29, (o, v) -> o.inForce(0, v));
    }

    private static void kept() {
        ReleaseTerms x = Edges.edge("Promise 17", "KEPT, DOUBT, BROKEN, IMPOSSIBLE of a TERM on a DAY. BEYOND. "
                + "NONE: it isn't IN FORCE.");
        Edges.is("none is there", x.kept(0, 0), Due.BEYOND);
        x.term(0, 0, 0);
        x.seen(0, 0, 0);
        x.seen(0, 1, 200);
        x.seen(0, 0, 300);
        x.seen(0, 1, 301);
        for (int day = 0; day < 4; day++) {
            Edges.is("day " + day, x.kept(0, day), day);
        }
        Edges.within(x, "term", 0, 0, (o, v) -> o.kept(v, 0));
        Edges.within(x, "day", 0, 29, (o, v) -> o.kept(0, v));
        x.span(0, 1, 3, 28);
        Edges.is("ahead of its days", x.kept(0, 2), Due.NONE);
        Edges.is("its first day", x.kept(0, 3), 3);
        Edges.is("its last day", x.kept(0, 28), 1);
        Edges.is("behind its days", x.kept(0, 29), Due.NONE);
        x.turn(0, 5);
        Edges.is("a weekly one on day 4", x.kept(0, 4), 1);
        Edges.is("a weekly one on day 5", x.kept(0, 5), Due.NONE);
        Edges.is("a weekly one on day 6", x.kept(0, 6), Due.NONE);
        Edges.is("a weekly one on day 7", x.kept(0, 7), 1);
    }

    private static void count() {
        ReleaseTerms x = Edges.edge("Promise 18", "On how many DAYS from one to one a TERM that is IN FORCE is what "
                + "(0 to 3 as of kept()).");
        x.term(0, 0, 0);
        x.span(0, 1, 1, 28);
        x.seen(0, 0, 0);
        x.seen(0, 0, 100);
        x.seen(0, 1, 200);
        x.seen(0, 0, 2800);
        x.seen(0, 1, 2801);
        x.seen(0, 0, 2900);
        int[] want = {1, 25, 1, 1};
        for (int what = 0; what < 4; what++) {
            Edges.is("all days, what " + what, x.count(0, 0, 29, what), want[what]);
        }
        Edges.is("one day", x.count(0, 1, 1, 0), 1);
        Edges.is("a day on which it is not in force", x.count(0, 0, 0, 0), 0);
        Edges.is("the last day counts", x.count(0, 3, 28, 3), 1);
        Edges.is("the day ahead of it", x.count(0, 3, 27, 3), 0);
        Edges.is("the first day counts", x.count(0, 2, 29, 2), 1);
        Edges.is("the day behind it", x.count(0, 3, 29, 2), 0);
        x = Edges.edge("Promise 18", "BEYOND: also if the second one is less.");
        Edges.is("none is there", x.count(0, 0, 29, 0), Due.BEYOND);
        x.term(0, 0, 0);
        Edges.within(x, "term", 0, 0, (o, v) -> o.count(v, 0, 29, 0));
        Edges.within(x, "from", 0, 29, (o, v) -> o.count(0, v, 29, 0));
        Edges.within(x, "to", 0, 29, (o, v) -> o.count(0, 0, v, 0));
        Edges.within(x, "what", 0, 3, (o, v) -> o.count(0, 0, 29, v));
        Edges.is("the second one is less", x.count(0, 1, 0, 0), Due.BEYOND);
        Edges.is("by one at the end", x.count(0, 29, 28, 0), Due.BEYOND);
    }

    private static void breach() {
        ReleaseTerms x = Edges.edge("Promise 19", "The first DAY from one on on which some TERM of a PERSON is BROKEN.");
        x.term(1, 0, 1);
        x.term(0, 0, 0);
        x.span(1, 1, 0, 9);
        x.seen(0, 1, 0);
        x.seen(0, 1, 2900);
        x.seen(0, 5, 900);
        x.seen(0, 5, 1000);
        Edges.is("from day 0 on", x.breach(0, 0), 0);
        Edges.is("from day 1 on, by the second term", x.breach(0, 1), 9);
        Edges.is("from that day on", x.breach(0, 9), 9);
        Edges.is("not when it is not in force", x.breach(0, 10), 29);
        Edges.is("from the last day on", x.breach(0, 29), 29);
        x = Edges.edge("Promise 19", "BEYOND. NONE.");
        Edges.is("no term", x.breach(0, 0), Due.NONE);
        x.term(1, 0, 1);
        Edges.is("in doubt", x.breach(0, 0), Due.NONE);
        x.seen(0, 2, 0);
        Edges.is("kept", x.breach(0, 0), Due.NONE);
        x.seen(0, 1, 1);
        Edges.is("impossible", x.breach(0, 0), Due.NONE);
        x.seen(1, 1, 100);
        Edges.is("another person", x.breach(0, 0), Due.NONE);
        x.seen(0, 1, 2800);
        Edges.is("behind the last one", x.breach(0, 29), Due.NONE);
        Edges.within(x, "person", 0, 5, (o, v) -> o.breach(v, 0));
        Edges.within(x, "day", 0, 29, (o, v) -> o.breach(0, v));
    }
}
