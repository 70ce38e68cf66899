/** Promises 20 to 24: ways. */
final class EdgesOfWays {
    private EdgesOfWays() {
    }

    static void run() {
        way();
        at();
        may();
        ways();
        bars();
        asking();
        fiveAsking();
        movesAtTheRightTime();
    }

    private static void isTold(ReleaseTerms x, String places) {
        for (int hour = 0; hour < 24; hour++) {
            Edges.is("at(" + hour + ")", x.at(hour), places.charAt(hour) - '0');
        }
    }

    private static void way() {
        ReleaseTerms x = Edges.edge("Promise 20", "MOVES of THE WAY of a PERSON on a DAY; its PLACES are told. BEYOND.");
        Due.line(x, 0, 7);
        x.term(2, 0, 7);
        x.span(0, 0, 23, 23);
        x.seen(0, 0, 16);
        Edges.is("the last hour just in time", x.way(0, 0), 7);
        isTold(x, "000000000000000001234567");
        x.turn(0, 6);
        x.span(0, 0, 0, 2);
        Edges.is("the first hours", x.way(0, 0), 7);
        isTold(x, "777654321000000000000000");
        Edges.is("another day needs no move", x.way(0, 1), 0);
        isTold(x, "777777777777777777777777");
        Edges.within(x, "person", 0, 5, (o, v) -> o.way(v, 0));
        Edges.within(x, "day", 0, 29, (o, v) -> o.way(0, v));
        x = Edges.edge("Promise 20", "NONE: there is no LAWFUL one (what is told stays).");
        x.seen(1, 4, 0);
        Edges.is("a lawful one", x.way(1, 0), 0);
        x.term(1, 1, 4);
        Edges.is("no lawful one", x.way(1, 0), Due.NONE);
        isTold(x, "444444444444444444444444");
        x.span(0, 1, 1, 1);
        x.seen(1, 3, 1);
        Edges.is("no way at all", x.way(1, 0), Due.NONE);
        Edges.is("a finding of another kind", x.way(6, 0), Due.BEYOND);
        isTold(x, "444444444444444444444444");
        x = Edges.edge("Promise 20", "NONE: there is no LAWFUL one (what is told stays).");
        x.term(3, 0, 0);
        x.span(0, 0, 9, 9);
        Edges.is("more is asked than there are hours", x.way(0, 0), Due.NONE);
        Edges.is("nothing is told then", x.at(0), Due.NONE);
    }

    private static void at() {
        ReleaseTerms x = Edges.edge("Promise 21", "The PLACE of the way told latest in an HOUR. BEYOND. "
                + "NONE: none was told.");
        Edges.is("none was told", x.at(0), Due.NONE);
        Edges.is("nor in the last hour", x.at(23), Due.NONE);
        x.may(0, 0);
        x.ways(0, 0);
        Edges.is("none but way() tells one", x.at(0), Due.NONE);
        x.seen(0, 3, 0);
        x.seen(1, 5, 0);
        x.way(0, 0);
        x.way(1, 0);
        Edges.is("the latest", x.at(23), 5);
        x.seen(1, 6, 0);
        x.road(5, 6, true);
        Edges.is("as it was told", x.at(0), 5);
        Edges.within(x, "hour", 0, 23, ReleaseTerms::at);
    }

    private static void may() {
        ReleaseTerms x = Edges.edge("Promise 22", "PLACES at which a PERSON may ask to be then (when as of seen()): "
                + "those at which some LAWFUL WAY is then, as a set. BEYOND.");
        Edges.is("all", x.may(0, 0), 255);
        Due.line(x, 0, 7);
        x.term(6, 0, 0);
        x.span(0, 0, 3, 5);
        Edges.is("just ahead of its hours", x.may(0, 2), 3);
        Edges.is("in its hours", x.may(0, 4), 1);
        Edges.is("just behind them", x.may(0, 6), 3);
        Edges.is("in the first hour", x.may(0, 0), 15);
        x.span(0, 0, 3, 6);
        Edges.is("one hour to spare, first", x.may(0, 3), 3);
        Edges.is("one hour to spare, between", x.may(0, 4), 1 + 2);
        x.seen(0, 7, 6);
        Edges.is("no lawful way: the empty set", x.may(0, 4), 0);
        Edges.is("though there are ways", x.could(0, 4), 32 + 64 + 128);
        Edges.isBeyond(x, "person", (o, v) -> o.may(v, 0), -1, 6);
        Edges.isBeyond(x, "when", (o, v) -> o.may(0, v), -1, 24, 124, 2924, 3000);
    }

    private static void ways() {
        ReleaseTerms x = Edges.edge("Promise 23", "How many LAWFUL WAYS a PERSON has on a DAY, 1000000 at most. BEYOND.");
        Edges.is("without roads", x.ways(0, 0), 8);
        x.term(0, 0, 0);
        Edges.is("one", x.ways(0, 0), 1);
        x.term(1, 0, 0);
        Edges.is("none", x.ways(0, 0), 0);
        Edges.within(x, "person", 0, 5, (o, v) -> o.ways(v, 0));
        Edges.within(x, "day", 0, 29, (o, v) -> o.ways(0, v));
        x = Edges.edge("Promise 23", "How many LAWFUL WAYS a PERSON has on a DAY");
        x.term(2, 0, 0);
        x.term(2, 1, 5);
        x.seen(3, 0, 0);
        Edges.is("one reports at 0", x.ways(0, 0), 1);
        Edges.is("one reports at 5, whoever was asked for ahead", x.ways(1, 0), 1);
        Edges.is("one is free", x.ways(2, 0), 8);
        Edges.is("one was seen in the first hour, whoever was asked for ahead", x.ways(3, 0), 1);
        countJustBelow(Edges.edge("Promise 23", "1000000 at most"));
        countAbove(Edges.edge("Promise 23", "1000000 at most"));
    }

    private static void allRoads(ReleaseTerms x, int places) {
        for (int one = 0; one < places; one++) {
            for (int other = 0; other < one; other++) {
                x.road(one, other, true);
            }
        }
    }

    /** Between places all of which are joined each free hour has as many choices as there are places allowed. */
    private static void countJustBelow(ReleaseTerms x) {
        allRoads(x, 8);
        for (int hour = 6; hour < 24; hour++) {
            x.seen(0, 0, hour);
        }
        x.term(1, 0, 7);
        x.span(0, 0, 0, 5);
        Edges.is("7 to the 6", x.ways(0, 0), 117649);
        x.span(0, 1, 29, 29);
        Edges.is("8 to the 6", x.ways(0, 0), 262144);
        x.term(1, 1, 7);
        x.term(1, 1, 6);
        for (int hour = 7; hour < 24; hour++) {
            x.seen(1, 0, hour);
        }
        Edges.is("6 to the 7", x.ways(1, 0), 279936);
        x.seen(2, 0, 1);
        for (int hour = 8; hour < 24; hour++) {
            x.seen(2, 0, hour);
        }
        x.term(1, 2, 7);
        x.span(3, 0, 0, 0);
        x.term(1, 2, 6);
        x.span(4, 0, 0, 0);
        Edges.is("6 by 8 to the 6 is more than a million", x.ways(2, 0), 1000000);
        x.term(1, 2, 5);
        x.span(5, 0, 0, 0);
        x.term(1, 2, 4);
        x.span(6, 0, 0, 0);
        Edges.is("4 by 8 to the 6 is more too", x.ways(2, 0), 1000000);
        x.term(1, 2, 3);
        x.span(7, 0, 0, 0);
        Edges.is("3 by 8 to the 6 is less", x.ways(2, 0), 786432);
    }

    /** 4 to the 3 by 5 to the 6 are just a million. */
    private static void countAbove(ReleaseTerms x) {
        allRoads(x, 5);
        for (int hour = 9; hour < 24; hour++) {
            x.seen(0, 0, hour);
        }
        x.term(1, 0, 4);
        x.span(0, 0, 0, 2);
        Edges.is("4 to the 3 by 5 to the 6", x.ways(0, 0), 1000000);
        x.term(2, 0, 0);
        Edges.is("and a report that is surely kept", x.ways(0, 0), 1000000);
        x.term(2, 0, 1);
        x.span(2, 0, 0, 0);
        x.term(1, 0, 2);
        x.span(3, 0, 1, 1);
        Edges.is("1 by 3 by 4 by 5 to the 6", x.ways(0, 0), 187500);
        x.span(0, 1, 29, 29);
        x.span(2, 1, 29, 29);
        x.span(3, 1, 29, 29);
        Edges.is("5 to the 9", x.ways(0, 0), 1000000);
        Edges.is("a day without sightings", x.ways(0, 1), 1000000);
    }

    private static void bars() {
        ReleaseTerms x = Edges.edge("Promise 24", "The least TERM without which a PERSON would have a LAWFUL WAY on a "
                + "DAY. BEYOND.");
        x.term(0, 1, 0);
        x.term(0, 0, 3);
        x.term(0, 0, 4);
        Edges.is("either would do", x.bars(0, 0), 1);
        x.seen(0, 4, 12);
        Edges.is("the first alone", x.bars(0, 0), 1);
        x.seen(0, 3, 12);
        Edges.is("the second alone", x.bars(0, 0), 2);
        Edges.within(x, "person", 0, 5, (o, v) -> o.bars(v, 0));
        Edges.within(x, "day", 0, 29, (o, v) -> o.bars(0, v));
        x = Edges.edge("Promise 24", "NONE: there is one with all, or none without any one.");
        Edges.is("no terms", x.bars(0, 0), Due.NONE);
        x.term(2, 0, 3);
        Edges.is("one with all", x.bars(0, 0), Due.NONE);
        x.term(2, 0, 4);
        Edges.is("one of two bars it", x.bars(0, 0), 0);
        x.term(2, 0, 5);
        Edges.is("two of three bar it", x.bars(0, 0), Due.NONE);
        x.span(2, 1, 7, 7);
        Edges.is("one that isn't in force bars nothing", x.bars(0, 0), 0);
        x.seen(0, 0, 0);
        x.seen(0, 1, 1);
        Edges.is("no way at all", x.bars(0, 0), Due.NONE);
    }

    private static void asking() {
        ReleaseTerms x = Edges.edge("Promise 20", "MOVES of THE WAY of a PERSON on a DAY; its PLACES are told.");
        Due.line(x, 0, 7);
        x.term(2, 0, 2);
        x.span(0, 0, 0, 0);
        x.term(2, 0, 1);
        x.span(1, 0, 1, 1);
        x.term(2, 0, 0);
        x.span(2, 0, 23, 23);
        Edges.is("a report in the first, the second and the last hour", x.way(0, 0), 2);
        isTold(x, "210000000000000000000000");
        Edges.is("may in the first hour", x.may(0, 0), 4);
        Edges.is("may in the second", x.may(0, 1), 2);
        Edges.is("may in the last", x.may(0, 23), 1);
        Edges.is("without any of them one may be anywhere", x.may(1, 0), 255);
        x.span(0, 0, 0, 4);
        x.span(1, 0, 3, 5);
        x.turn(1, 3);
        x.span(2, 0, 4, 6);
        x.turn(2, 3);
        Edges.is("one at 2, two at 1, two at 0", x.way(0, 0), 2);
        isTold(x, "211110000000000000000000");
        x.term(6, 0, 0);
        Edges.is("three at 0 all day, some of them for both", x.way(0, 0), 2);
        isTold(x, "211110000000000000000000");
        x.term(1, 0, 0);
        x.span(4, 0, 7, 23);
        Edges.is("the third at 0 must come first, as 0 is barred from 7 on", x.way(0, 0), 5);
        isTold(x, "012110011111111111111111");
    }

    private static void fiveAsking() {
        ReleaseTerms x = Edges.edge("Promise 23", "How many LAWFUL WAYS a PERSON has on a DAY");
        Due.line(x, 0, 7);
        for (int place = 0; place < 5; place++) {
            x.term(6, 0, place);
        }
        Edges.is("as much as can be asked", x.way(0, 0), 4);
        isTold(x, "000000000000111222333444");
        Edges.is("very many ways", x.ways(0, 0), 1000000);
        Edges.is("all are told of in the middle", x.may(0, 12), 255);
        Edges.is("and in the last hour", x.may(0, 23), 255);
        String seen = "000111222333444555555555";
        for (int hour = 0; hour < 24; hour++) {
            x.seen(0, seen.charAt(hour) - '0', 100 + hour);
        }
        Edges.is("one way, just as often as asked", x.ways(0, 1), 1);
        Edges.is("without a bar", x.bars(0, 1), Due.NONE);
        x.seen(0, 5, 114);
        Edges.is("once too seldom at 4", x.ways(0, 1), 0);
        Edges.is("that bars it", x.bars(0, 1), 4);
        x.seen(0, 1, 102);
        Edges.is("at 0 as well", x.bars(0, 1), Due.NONE);
    }

    private static void movesAtTheRightTime() {
        ReleaseTerms x = Edges.edge("Promise 20", "MOVES of THE WAY of a PERSON on a DAY");
        x.road(0, 1, true);
        x.road(1, 2, true);
        x.road(0, 3, true);
        x.road(3, 4, true);
        x.road(4, 2, true);
        x.seen(0, 0, 0);
        x.seen(0, 2, 23);
        x.term(1, 0, 1);
        x.span(0, 0, 5, 23);
        Edges.is("who waits too long must go round", x.way(0, 0), 2);
        isTold(x, "000012222222222222222222");
        x.span(0, 0, 0, 23);
        Edges.is("round", x.way(0, 0), 3);
        isTold(x, "000000000000000000000342");
    }
}
