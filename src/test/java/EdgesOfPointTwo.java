/** Point 2 of "Terms": lawful ways, boxes, sureties, hearings. */
final class EdgesOfPointTwo {
    private static final String POINT = "Terms 2";

    private EdgesOfPointTwo() {
    }

    static void run() {
        lawful();
        theWay();
        risks();
        sureties();
        called();
        back();
        hearings();
    }

    private static void lawful() {
        ReleaseTerms x = Edges.edge(POINT, "A LAWFUL WAY of a PERSON on a DAY keeps all TERMS of this PERSON that are "
                + "IN FORCE.");
        x.term(1, 0, 0);
        x.term(0, 1, 5);
        x.term(1, 0, 1);
        x.span(2, 1, 4, 4);
        x.term(5, 0, 2);
        Edges.is("not that of another person; one is not in force", x.may(0, 0), 4);
        Edges.is("no weekly one on day 5", x.may(0, 500), 254);
        Edges.is("all on day 4", x.may(0, 400), 4);
        x.term(1, 0, 2);
        Edges.is("all together can't be kept", x.may(0, 0), 0);
        Edges.is("but on day 5", x.may(0, 500), 250);
        Edges.is("another person", x.may(1, 500), 32);
        Edges.is("one without terms", x.may(2, 500), 255);
        x = Edges.edge(POINT, "A LAWFUL WAY of a PERSON on a DAY keeps all TERMS of this PERSON that are IN FORCE.");
        x.term(0, 0, 0);
        x.span(0, 0, 0, 5);
        x.term(2, 0, 5);
        Edges.is("at home till 5, and a report elsewhere without a road", x.ways(0, 0), 0);
        x.road(0, 5, true);
        x.seen(0, 5, 23);
        for (int hour = 7; hour < 23; hour++) {
            x.seen(0, 0, hour);
        }
        Edges.is("with a road: hour 6 is free", x.ways(0, 0), 2);
        x.turn(1, 3);
        Edges.is("two reports: hour 6 must be one", x.ways(0, 0), 1);
        x.turn(1, 6);
        Edges.is("three are too many", x.ways(0, 0), 0);
    }

    private static void isTold(ReleaseTerms x, String places) {
        for (int hour = 0; hour < 24; hour++) {
            Edges.is("at(" + hour + ")", x.at(hour), places.charAt(hour) - '0');
        }
    }

    private static void theWay() {
        ReleaseTerms x = Edges.edge(POINT, "THE WAY: the one with the fewest MOVES; of these the first, HOUR by HOUR "
                + "the lesser PLACE.");
        Edges.is("no move at all", x.way(0, 0), 0);
        isTold(x, "000000000000000000000000");
        x.road(0, 7, true);
        x.road(7, 6, true);
        x.road(0, 1, true);
        x.road(1, 6, true);
        x.seen(0, 7, 0);
        x.seen(0, 1, 23);
        Edges.is("two moves: by 0 and by 6", x.way(0, 0), 2);
        isTold(x, "700000000000000000000001");
        x.term(1, 0, 0);
        Edges.is("by 6, as 0 is barred; as soon as can be, and on as soon", x.way(0, 0), 2);
        isTold(x, "761111111111111111111111");
        x.seen(1, 5, 23);
        Edges.is("a greater place without a move", x.way(1, 0), 0);
        isTold(x, "555555555555555555555555");
        for (int hour = 0; hour < 24; hour++) {
            x.seen(2, hour % 2, hour);
        }
        Edges.is("a move in every hour", x.way(2, 0), 23);
        isTold(x, "010101010101010101010101");
    }

    private static void isRisk(ReleaseTerms x, int r, int n, int k, int above, int below) {
        String risk = "risk by " + r + ", " + n + ", " + k;
        Edges.is(risk + ", above", x.risk(r, n, k, 0), above);
        Edges.is(risk + ", below", x.risk(r, n, k, 1), below);
    }

    private static void risks() {
        ReleaseTerms x = Edges.edge(POINT, "BOXES cry falsely on r of 10 DAYS.");
        isRisk(x, 0, 1, 1, 0, 1);
        isRisk(x, 1, 1, 1, 1, 10);
        isRisk(x, 9, 1, 1, 9, 10);
        isRisk(x, 10, 1, 1, 1, 1);
        x = Edges.edge(POINT, "RISK: how likely k or more of n DAYS have a false cry: a fraction in lowest terms");
        isRisk(x, 2, 1, 1, 1, 5);
        isRisk(x, 5, 1, 1, 1, 2);
        isRisk(x, 5, 2, 2, 1, 4);
        isRisk(x, 5, 2, 1, 3, 4);
        isRisk(x, 3, 2, 1, 51, 100);
        isRisk(x, 3, 2, 2, 9, 100);
        isRisk(x, 5, 9, 9, 1, 512);
        isRisk(x, 1, 9, 9, 1, 1000000000);
        isRisk(x, 9, 9, 1, 999999999, 1000000000);
        x = Edges.edge(POINT, "by part 0 (above) and 1 (below; 0 is 0 by 1)");
        isRisk(x, 0, 9, 1, 0, 1);
        isRisk(x, 0, 9, 9, 0, 1);
        isRisk(x, 3, 1, 2, 0, 1);
        isRisk(x, 10, 8, 9, 0, 1);
        isRisk(x, 0, 9, 0, 1, 1);
        isRisk(x, 7, 9, 0, 1, 1);
    }

    private static void sureties() {
        ReleaseTerms x = Edges.edge(POINT, "SURETIES 0 to 4");
        Edges.within(x, "surety", 0, 4, (o, v) -> o.surety(v, 1, 1));
        Edges.within(x, "suretyOf", 0, 4, (o, v) -> o.suretyOf(v, 0));
        x = Edges.edge(POINT, "ROOM (0 to 9999; 0 at first)");
        for (int surety = 0; surety < 5; surety++) {
            Edges.is("room of " + surety, x.suretyOf(surety, 0), 0);
        }
        Edges.within(x, "room", 0, 9999, (o, v) -> o.surety(0, v, 0));
        Edges.is("the greatest", x.suretyOf(0, 0), 9999);
        x = Edges.edge(POINT, "PERSONS whom one BACKS (a set; none at first)");
        for (int surety = 0; surety < 5; surety++) {
            Edges.is("backed by " + surety, x.suretyOf(surety, 1), 0);
        }
        Edges.within(x, "persons", 0, 63, (o, v) -> o.surety(0, 0, v));
        Edges.is("all of them", x.suretyOf(0, 1), 63);
        x = Edges.edge(POINT, "BAIL of a PERSON (0 to 9999; 0 at first)");
        for (int person = 0; person < 6; person++) {
            Edges.is("bail of " + person, x.bail(person, 9999), 0);
            Edges.is("the greatest", x.bail(person, 0), 9999);
        }
        Edges.within(x, "bail", 0, 9999, (o, v) -> o.bail(0, v));
    }

    private static void called() {
        ReleaseTerms x = Edges.edge(POINT, "CALLED: BAIL is taken, surety by surety that backs the PERSON, by numbers, "
                + "from each as much as there is in ROOM; GIVEN is what each gave for the PERSON "
                + "(ROOM is less by that).");
        x.surety(4, 10, 32);
        x.surety(3, 10, 31);
        x.surety(2, 0, 32);
        x.surety(1, 9, 63);
        x.surety(0, 1, 32);
        x.bail(5, 11);
        Edges.is("call(5)", x.call(5), 0);
        int[] given = {1, 9, 0, 0, 1};
        int[] room = {0, 0, 0, 10, 9};
        for (int surety = 0; surety < 5; surety++) {
            Edges.is("given by " + surety, x.suretyOf(surety, 7), given[surety]);
            Edges.is("room of " + surety, x.suretyOf(surety, 0), room[surety]);
        }
        x.bail(4, 10);
        Edges.is("just as much as there is", x.call(4), 0);
        Edges.is("nothing is left there", x.suretyOf(3, 0), 0);
        x.bail(3, 1);
        Edges.is("one is lacking", x.call(3), 1);
    }

    private static void back() {
        ReleaseTerms x = Edges.edge(POINT, "BACK: all that was GIVEN for a PERSON is in ROOM again.");
        x.surety(0, 9999, 3);
        x.surety(1, 5, 3);
        x.bail(0, 9999);
        x.bail(1, 4);
        x.call(0);
        x.call(1);
        Edges.is("all of it", x.back(0), 9999);
        Edges.is("in room again", x.suretyOf(0, 0), 9999);
        Edges.is("nothing is given for them", x.suretyOf(0, 2), 0);
        Edges.is("what was given for another person is not", x.suretyOf(1, 0), 1);
        Edges.is("and stays given", x.suretyOf(1, 3), 4);
    }

    private static void hearings() {
        ReleaseTerms x = Edges.edge(POINT, "HEARINGS: of each PERSON one at most, on a DAY; 2 at most on one DAY.");
        x.hearing(0, 3);
        x.hearing(0, 4);
        Edges.is("one of a person", x.many(3), 1);
        Edges.is("the later told one", x.heard(0), 4);
        Edges.is("the day ahead is free again", x.hearing(1, 3), 1);
        Edges.is("two on one day", x.hearing(1, 4), 2);
        Edges.is("a third", x.hearing(2, 4), Due.FULL);
        Edges.is("which is on another day", x.hearing(2, 5), 1);
        for (int person = 0; person < 6; person++) {
            Edges.is("hearing of " + person, x.hearing(person, 20 + person / 2), 1 + person % 2);
        }
        Edges.is("six at most", x.many(3), 6);
    }
}
