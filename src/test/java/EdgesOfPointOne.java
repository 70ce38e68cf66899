/** Point 1 of "Terms": places, persons, days, sightings, ways, terms, kinds, what is kept. */
final class EdgesOfPointOne {
    private static final String POINT = "Terms 1";

    private EdgesOfPointOne() {
    }

    static void run() {
        places();
        persons();
        days();
        whens();
        sightings();
        ways();
        terms();
        spans();
        kinds();
        inForce();
        bad();
        badInItsHours();
        asked();
        keeps();
        verdicts();
        verdictsWithoutRoom();
        verdictsAtTheEnd();
        verdictsOneAfterAnother();
    }

    private static void places() {
        ReleaseTerms x = Edges.edge(POINT, "PLACES 0 to 7");
        Edges.within(x, "road: one", 0, 7, (o, v) -> o.road(v, 3, true));
        Edges.within(x, "road: other", 0, 7, (o, v) -> o.road(3, v, true));
        Edges.within(x, "roads", 0, 7, ReleaseTerms::roads);
        Edges.within(x, "far: from", 0, 7, (o, v) -> o.far(v, 0));
        Edges.within(x, "far: to", 0, 7, (o, v) -> o.far(0, v));
        Edges.within(x, "seen: place", 0, 7, (o, v) -> o.seen(0, v, 0));
        Edges.within(x, "term: place", 0, 7, (o, v) -> o.term(0, 0, v));
        Edges.within(x, "change: place", 0, 7, (o, v) -> o.change(0, v == 7 ? 15 : 20, v));
        x = Edges.edge(POINT, "between each two there is a ROAD or not (none at first; it goes both ways)");
        for (int one = 0; one < 8; one++) {
            for (int other = 0; other < one; other++) {
                Edges.is("no road at first", x.road(one, other, true), 0);
                Edges.is("it goes both ways", x.road(other, one, true), 1);
            }
            Edges.is("roads so far", x.many(2), one * (one + 1) / 2);
        }
    }

    private static void persons() {
        ReleaseTerms x = Edges.edge(POINT, "PERSONS 0 to 5.");
        x.sheet(0, 8, 1);
        Edges.within(x, "seen", 0, 5, (o, v) -> o.seen(v, 0, 0));
        Edges.within(x, "where", 0, 5, (o, v) -> o.where(v, 0));
        Edges.within(x, "could", 0, 5, (o, v) -> o.could(v, 0));
        Edges.within(x, "drift", 0, 5, (o, v) -> o.drift(v, 1, 1));
        Edges.within(x, "term", 0, 5, (o, v) -> o.term(0, v, 0));
        Edges.within(x, "inForce", 0, 5, (o, v) -> o.inForce(v, 0));
        Edges.within(x, "breach", 0, 5, (o, v) -> o.breach(v, 0));
        Edges.within(x, "way", 0, 5, (o, v) -> o.way(v, 0));
        Edges.within(x, "may", 0, 5, (o, v) -> o.may(v, 0));
        Edges.within(x, "ways", 0, 5, (o, v) -> o.ways(v, 0));
        Edges.within(x, "bars", 0, 5, (o, v) -> o.bars(v, 0));
        Edges.within(x, "bail", 0, 5, (o, v) -> o.bail(v, 0));
        Edges.within(x, "call", 0, 5, ReleaseTerms::call);
        Edges.within(x, "back", 0, 5, ReleaseTerms::back);
        Edges.within(x, "hearing", 0, 5, (o, v) -> o.hearing(v, 0));
        Edges.within(x, "heard", 0, 5, ReleaseTerms::heard);
        Edges.within(x, "load", 0, 5, (o, v) -> o.load(0, v, 0));
        Edges.within(x, "judge", 0, 5, (o, v) -> o.judge(0, v, 0));
    }

    private static void days() {
        ReleaseTerms x = Edges.edge(POINT, "DAYS 0 to 29, each with HOURS 0 to 23.");
        x.sheet(0, 8, 1);
        x.term(2, 0, 0);
        Edges.within(x, "drift", 0, 29, (o, v) -> o.drift(0, v, 1));
        Edges.within(x, "inForce", 0, 29, (o, v) -> o.inForce(0, v));
        Edges.within(x, "kept", 0, 29, (o, v) -> o.kept(0, v));
        Edges.within(x, "count: from", 0, 29, (o, v) -> o.count(0, v, 29, 0));
        Edges.within(x, "count: to", 0, 29, (o, v) -> o.count(0, 0, v, 0));
        Edges.within(x, "breach", 0, 29, (o, v) -> o.breach(0, v));
        Edges.within(x, "way", 0, 29, (o, v) -> o.way(1, v));
        Edges.within(x, "ways", 0, 29, (o, v) -> o.ways(0, v));
        Edges.within(x, "bars", 0, 29, (o, v) -> o.bars(0, v));
        Edges.within(x, "hearing", 0, 29, (o, v) -> o.hearing(0, v));
        Edges.within(x, "load", 0, 29, (o, v) -> o.load(0, 0, v));
        Edges.within(x, "judge", 0, 29, (o, v) -> o.judge(0, 0, v));
        Edges.within(x, "at", 0, 23, ReleaseTerms::at);
    }

    private static void whens() {
        ReleaseTerms x = Edges.edge(POINT, "DAYS 0 to 29, each with HOURS 0 to 23.");
        int[] right = {0, 23, 100, 123, 2900, 2923};
        int[] wrong = {-1, -100, 24, 99, 124, 199, 2824, 2924, 2999, 3000, 3023, Integer.MIN_VALUE, Integer.MAX_VALUE};
        Edges.Call[] calls = {(o, v) -> o.seen(0, 0, v), (o, v) -> o.where(0, v), (o, v) -> o.could(0, v),
            (o, v) -> o.may(0, v)};
        for (Edges.Call call : calls) {
            Edges.isAllowed(x, "when", call, right);
            Edges.isBeyond(x, "when", call, wrong);
        }
        for (int s = 0; s < right.length; s++) {
            Edges.is("day of " + right[s], x.seenOf(s, 2), right[s] / 100);
            Edges.is("hour of " + right[s], x.seenOf(s, 3), right[s] % 100);
        }
    }

    private static void sightings() {
        ReleaseTerms x = Edges.edge(POINT, "SIGHTINGS, 60 at most, numbered as they come: "
                + "a PERSON was at a PLACE on a DAY in an HOUR");
        for (int s = 0; s < 60; s++) {
            Edges.is("a sighting", x.seen(s % 6, s % 8, 100 * (s % 30) + s % 24), s);
        }
        Edges.is("a 61st", x.seen(0, 0, 0), Due.FULL);
        for (int s = 0; s < 60; s++) {
            Edges.is("person of " + s, x.seenOf(s, 0), s % 6);
            Edges.is("place of " + s, x.seenOf(s, 1), s % 8);
            Edges.is("day of " + s, x.seenOf(s, 2), s % 30);
            Edges.is("hour of " + s, x.seenOf(s, 3), s % 24);
        }
        x = Edges.edge(POINT, "(of one PERSON, DAY and HOUR the latest told one counts)");
        x.seen(1, 2, 304);
        x.seen(1, 5, 304);
        Edges.is("where", x.where(1, 304), 5);
        Edges.is("could", x.could(1, 304), 32);
        x.seen(0, 6, 304);
        x.seen(1, 6, 204);
        x.seen(1, 6, 305);
        Edges.is("another person, day or hour is not meant", x.where(1, 304), 5);
        Edges.is("nor is the earlier one told back", x.seenOf(0, 4), 0);
        x.seen(1, 2, 304);
        Edges.is("where they were told to be at first", x.where(1, 304), 2);
    }

    private static void ways() {
        ReleaseTerms x = Edges.edge(POINT, "A WAY of a PERSON on a DAY: a PLACE for each HOUR, which is that of the "
                + "SIGHTING, if there is one");
        x.road(0, 7, true);
        x.seen(0, 0, 500);
        x.seen(0, 7, 523);
        Edges.is("the first hour", x.could(0, 500), 1);
        Edges.is("the hour between", x.could(0, 501), 129);
        Edges.is("the last hour", x.could(0, 523), 128);
        Edges.is("the last hour of the day ahead", x.could(0, 423), 255);
        Edges.is("the first hour of the day behind", x.could(0, 600), 255);
        Edges.is("another person", x.could(1, 500), 255);
        x = Edges.edge(POINT, "from HOUR to HOUR it is the same one, or goes by a ROAD (a MOVE)");
        x.seen(0, 3, 10);
        Edges.is("without roads one stays", x.could(0, 0), 8);
        Edges.is("till the last hour", x.could(0, 23), 8);
        x.road(3, 4, true);
        x.road(4, 5, true);
        Edges.is("one move in an hour", x.could(0, 11), 8 + 16);
        Edges.is("two in two", x.could(0, 12), 8 + 16 + 32);
        Edges.is("back in time too", x.could(0, 9), 8 + 16);
        x.seen(0, 5, 11);
        Edges.is("two moves in an hour can't be", x.could(0, 0), 0);
    }

    private static void terms() {
        ReleaseTerms x = Edges.edge(POINT, "TERMS 0, 1, .. (at most 12, and at most 5 of one PERSON)");
        for (int term = 0; term < 5; term++) {
            Edges.is("one of the person's five", x.term(0, 3, 0), term);
        }
        Edges.is("a sixth of one person", x.term(0, 3, 0), Due.FULL);
        for (int term = 5; term < 12; term++) {
            Edges.is("one of twelve", x.term(0, term % 3, 0), term);
        }
        Edges.is("a thirteenth", x.term(0, 4, 0), Due.FULL);
        Edges.is("twelve", x.many(1), 12);
    }

    private static void spans() {
        ReleaseTerms x = Edges.edge(POINT, "HOURS from one to one (0 to 23, the first no later)");
        x.term(0, 0, 0);
        Edges.is("0 to 23", x.span(0, 0, 0, 23), 1);
        Edges.is("0 to 0", x.span(0, 0, 0, 0), 1);
        Edges.is("23 to 23", x.span(0, 0, 23, 23), 1);
        Edges.is("-1 to 23", x.span(0, 0, -1, 23), Due.BEYOND);
        Edges.is("0 to 24", x.span(0, 0, 0, 24), Due.BEYOND);
        Edges.is("24 to 24", x.span(0, 0, 24, 24), Due.BEYOND);
        Edges.is("1 to 0", x.span(0, 0, 1, 0), Due.BEYOND);
        Edges.is("23 to 22", x.span(0, 0, 23, 22), Due.BEYOND);
        x = Edges.edge(POINT, "DAYS from one to one (0 to 29, likewise)");
        x.term(0, 0, 0);
        Edges.is("0 to 29", x.span(0, 1, 0, 29), 1);
        Edges.is("0 to 0", x.span(0, 1, 0, 0), 1);
        Edges.is("29 to 29", x.span(0, 1, 29, 29), 1);
        Edges.is("-1 to 29", x.span(0, 1, -1, 29), Due.BEYOND);
        Edges.is("0 to 30", x.span(0, 1, 0, 30), Due.BEYOND);
        Edges.is("30 to 30", x.span(0, 1, 30, 30), Due.BEYOND);
        Edges.is("1 to 0", x.span(0, 1, 1, 0), Due.BEYOND);
        Edges.is("29 to 28", x.span(0, 1, 29, 28), Due.BEYOND);
    }

    private static void kinds() {
        ReleaseTerms x = Edges.edge(POINT, "of KINDS: 0 TERM; 1 BARRED, 2 REPORT, 5 WEEKLY under TERM; "
                + "3 COUNTED under REPORT; 4 NEAR under BARRED; 6 STRICT under COUNTED.");
        Edges.within(x, "term: kind", 0, 6, (o, v) -> o.term(v, 5, 0));
        Edges.within(x, "turn: kind", 0, 6, (o, v) -> o.turn(0, v));
        x.hold(0, 0);
        Edges.within(x, "as: kind", 0, 6, (o, v) -> o.as(0, v));
        String[] isOf = {"0", "01", "02", "023", "014", "05", "0236"};
        for (int kind = 0; kind < 7; kind++) {
            x.turn(0, kind);
            for (int as = 0; as < 7; as++) {
                Edges.is(kind + " as " + as, x.as(0, as), isOf[kind].contains("" + as) ? 0 : Due.KIND);
            }
        }
    }

    private static void inForce() {
        ReleaseTerms x = Edges.edge(POINT, "IN FORCE on a DAY: TERM: on its DAYS.");
        for (int kind = 0; kind < 5; kind++) {
            x.term(kind, 0, 0);
            x.span(kind, 1, 5, 8);
        }
        int[] days = {0, 4, 5, 6, 8, 9, 29};
        int[] want = {0, 0, 31, 31, 31, 0, 0};
        for (int i = 0; i < days.length; i++) {
            Edges.is("on day " + days[i], x.inForce(0, days[i]), want[i]);
        }
        x = Edges.edge(POINT, "WEEKLY: as a TERM, but not on a DAY whose rest by 7 is 5 or 6.");
        x.term(5, 0, 0);
        x.term(5, 0, 0);
        x.span(1, 1, 3, 19);
        String always = "111110011111001111100111110011";
        String spanned = "000110011111001111100000000000";
        for (int day = 0; day < 30; day++) {
            Edges.is("on day " + day, x.inForce(0, day), always.charAt(day) - '0' + 2 * (spanned.charAt(day) - '0'));
        }
        Edges.is("kept() on day 5", x.kept(0, 5), Due.NONE);
        Edges.is("kept() on day 27", x.kept(0, 27), Due.NONE);
        Edges.is("kept() on day 28", x.kept(0, 28), 1);
    }

    private static void bad() {
        ReleaseTerms x = Edges.edge(POINT, "a PLACE is BAD: TERM: another one than its PLACE.");
        x.term(0, 0, 0);
        x.term(5, 0, 7);
        Edges.is("than 0", x.bad(0), 254);
        Edges.is("than 7, of a weekly one", x.bad(1), 127);
        x = Edges.edge(POINT, "BARRED: its PLACE.");
        x.road(0, 7, true);
        x.term(1, 0, 0);
        x.term(1, 0, 7);
        Edges.is("0", x.bad(0), 1);
        Edges.is("7", x.bad(1), 128);
        x = Edges.edge(POINT, "NEAR: as a BARRED one, and all to which there is a ROAD from it.");
        x.term(4, 0, 3);
        Edges.is("without roads", x.bad(0), 8);
        x.road(7, 3, true);
        x.road(7, 6, true);
        Edges.is("with a road, and not with two", x.bad(0), 8 + 128);
        for (int place = 0; place < 8; place++) {
            x.road(3, place, true);
        }
        Edges.is("with all roads", x.bad(0), 255);
        Edges.is("nowhere is a place to be", x.ways(0, 0), 0);
        x = Edges.edge(POINT, "REPORT: none. ASKED");
        x.term(2, 0, 0);
        x.term(3, 0, 0);
        x.term(6, 0, 0);
        for (int term = 0; term < 3; term++) {
            Edges.is("of report, counted and strict", x.bad(term), 0);
        }
    }

    private static void badInItsHours() {
        ReleaseTerms x = Edges.edge(POINT, "In each of its HOURS a PLACE is BAD");
        x.road(0, 1, true);
        x.term(1, 0, 1);
        x.span(0, 0, 10, 12);
        for (int hour = 9; hour <= 13; hour++) {
            Edges.is("may at " + hour, x.may(0, hour), hour >= 10 && hour <= 12 ? 253 : 255);
        }
        x.span(0, 0, 0, 0);
        Edges.is("may at 0", x.may(0, 0), 253);
        Edges.is("may at 1", x.may(0, 1), 255);
        x.span(0, 0, 23, 23);
        Edges.is("may at 22", x.may(0, 22), 255);
        Edges.is("may at 23", x.may(0, 23), 253);
    }

    private static void asked() {
        ReleaseTerms x = Edges.edge(POINT, "ASKED (in how many of its HOURS one must be at its PLACE): TERM: 0. "
                + "REPORT: 1. COUNTED: as a REPORT, and 1. STRICT: as a COUNTED one, and 1. "
                + "(Others as the KIND above.)");
        int[] asked = {0, 0, 1, 2, 0, 0, 3};
        x.term(0, 0, 0);
        for (int kind = 0; kind < 7; kind++) {
            x.turn(0, kind);
            Edges.is("of kind " + kind, x.termOf(0, 7), asked[kind]);
        }
        x.span(0, 0, 7, 8);
        Edges.is("three in two hours are asked still", x.termOf(0, 7), 3);
    }

    private static void keeps() {
        ReleaseTerms x = Edges.edge(POINT, "A WAY KEEPS a TERM, if it is at no BAD PLACE in its HOURS, and at its "
                + "PLACE in as many of them as ASKED, or more.");
        x.road(0, 1, true);
        x.term(2, 0, 1);
        x.sheet(0, 8, 24);
        int[] kinds = {2, 3, 6};
        for (int times = 0; times < 5; times++) {
            for (int asked = 1; asked <= 3; asked++) {
                x.turn(0, kinds[asked - 1]);
                Edges.is(times + " of " + asked, x.judge(0, 0, 0), times < asked ? 26 : 0);
            }
            x.write(0, 2 * times, 1);
        }
        x.turn(0, 2);
        x.span(0, 0, 9, 23);
        Edges.is("ahead of its hours", x.judge(0, 0, 0), 26);
        x.span(0, 0, 8, 8);
        Edges.is("in its only hour", x.judge(0, 0, 0), 0);
        x.turn(0, 1);
        Edges.is("at a bad place in its only hour", x.judge(0, 0, 0), 9);
        x.span(0, 0, 9, 23);
        Edges.is("at a bad place ahead of its hours", x.judge(0, 0, 0), 0);
        x.span(0, 0, 7, 7);
        Edges.is("at a bad place behind its hours", x.judge(0, 0, 0), 0);
    }

    private static void verdicts() {
        ReleaseTerms x = Edges.edge(POINT, "KEPT (0), if all WAYS of its PERSON keep it; BROKEN (2), if none does; "
                + "else DOUBT (1). IMPOSSIBLE (3), if there is no WAY at all.");
        x.road(0, 1, true);
        x.term(1, 0, 1);
        x.term(2, 0, 1);
        Edges.is("barred, no sighting", x.kept(0, 0), 1);
        Edges.is("report, no sighting", x.kept(1, 0), 1);
        x.seen(0, 0, 0);
        for (int hour = 2; hour < 24; hour++) {
            x.seen(0, 0, hour);
        }
        Edges.is("barred, one hour left open", x.kept(0, 0), 1);
        Edges.is("report, one hour left open", x.kept(1, 0), 1);
        x.seen(0, 0, 1);
        Edges.is("barred, one way, elsewhere", x.kept(0, 0), 0);
        Edges.is("report, one way, elsewhere", x.kept(1, 0), 2);
        x.seen(0, 1, 1);
        Edges.is("barred, one way, there once", x.kept(0, 0), 2);
        Edges.is("report, one way, there once", x.kept(1, 0), 0);
        x.seen(0, 7, 23);
        Edges.is("barred, no way at all", x.kept(0, 0), 3);
        Edges.is("report, no way at all", x.kept(1, 0), 3);
        x.turn(0, 0);
        Edges.is("a term, no way at all", x.kept(0, 0), 3);
        Edges.is("another day", x.kept(0, 1), 1);
    }

    private static void verdictsWithoutRoom() {
        ReleaseTerms x = Edges.edge(POINT, "Of a TERM on a DAY (on which it is IN FORCE)");
        x.term(3, 0, 1);
        x.span(0, 0, 6, 6);
        Edges.is("two of one hour", x.kept(0, 0), 2);
        x.span(0, 0, 6, 7);
        Edges.is("two of two hours", x.kept(0, 0), 1);
        x.turn(0, 6);
        Edges.is("three of two hours", x.kept(0, 0), 2);
        x.span(0, 0, 21, 23);
        Edges.is("three of three hours", x.kept(0, 0), 1);
        x.seen(0, 1, 12);
        Edges.is("without roads they are there", x.kept(0, 0), 0);
        x.span(0, 1, 4, 4);
        Edges.is("the day ahead of its days", x.kept(0, 3), Due.NONE);
        Edges.is("its day", x.kept(0, 4), 1);
        Edges.is("the day behind its days", x.kept(0, 5), Due.NONE);
    }

    private static void verdictsAtTheEnd() {
        ReleaseTerms x = Edges.edge(POINT, "KEPT (0), if all WAYS of its PERSON keep it; BROKEN (2), if none does; "
                + "else DOUBT (1).");
        x.road(0, 1, true);
        x.term(0, 0, 0);
        x.term(2, 0, 1);
        x.term(1, 0, 5);
        x.span(2, 0, 3, 4);
        x.seen(0, 1, 23);
        Edges.is("elsewhere in the last hour, by many ways", x.kept(0, 0), 2);
        Edges.is("reported in the last hour, or earlier too", x.kept(1, 0), 0);
        Edges.is("never at 5, and no place is bad in other hours", x.kept(2, 0), 0);
        x.span(0, 0, 0, 22);
        Edges.is("at home till then is in doubt", x.kept(0, 0), 1);
        x.span(1, 0, 0, 22);
        Edges.is("so is a report till then", x.kept(1, 0), 1);
    }

    private static void verdictsOneAfterAnother() {
        ReleaseTerms x = Edges.edge(POINT, "Of a TERM on a DAY (on which it is IN FORCE)");
        x.road(0, 1, true);
        x.term(6, 0, 1);
        x.term(0, 1, 0);
        x.seen(1, 0, 0);
        x.road(0, 1, false);
        Edges.is("a strict one in doubt", x.kept(0, 0), 1);
        Edges.is("a term that is kept", x.kept(1, 0), 0);
        x.seen(1, 1, 0);
        Edges.is("a strict one in doubt again", x.kept(0, 0), 1);
        Edges.is("a term that is broken", x.kept(1, 0), 2);
        x.seen(1, 0, 1);
        Edges.is("a term that is impossible", x.kept(1, 0), 3);
    }
}
