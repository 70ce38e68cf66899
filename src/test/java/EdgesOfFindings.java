import java.util.ArrayList;
import java.util.List;

/** The begin of "Terms": findings, their order, and that an act which answers one changes nothing. */
final class EdgesOfFindings {
    private EdgesOfFindings() {
    }

    static void run() {
        numbers();
        orderOfPlacesAndTerms();
        orderOfSuretiesAndTexts();
        orderOfSheets();
        refusedChangesNothing();
        quotientsAndSets();
    }

    private static void numbers() {
        ReleaseTerms x = Edges.edge("Terms", "FINDINGS are answers below -1000000: LOW is -1000001; LOW BEYOND, "
                + "LOW - 1 FULL, LOW - 2 KIND, LOW - 3 NONE, LOW - 4 STATE, LOW - 5 MISSING, LOW - 6 SIZE.");
        x.hearing(0, 0);
        x.hearing(1, 0);
        x.term(0, 0, 0);
        x.span(0, 1, 5, 6);
        x.hold(0, 0);
        Edges.is("BEYOND", x.roads(8), -1000001);
        Edges.is("FULL", x.hearing(2, 0), -1000002);
        Edges.is("KIND", x.as(0, 1), -1000003);
        Edges.is("NONE", x.far(0, 1), -1000004);
        Edges.is("STATE", x.change(0, 5, 0), -1000005);
        Edges.is("MISSING", x.as(1, 0), -1000006);
        Edges.is("SIZE", x.sheet(0, 8, -1), -1000007);
        for (int which = 0; which < 7; which++) {
            Edges.is("one finding " + which, x.status(which), 1);
        }
    }

    private static final String ORDER = "Each act tells its findings in the order in which they are asked "
            + "(that of its words)";

    private static void orderOfPlacesAndTerms() {
        ReleaseTerms x = Edges.edge("Terms", ORDER);
        Edges.is("4, far: BEYOND, NONE", x.far(0, 8), Due.BEYOND);
        Edges.is("7, where: BEYOND, NONE", x.where(6, 0), Due.BEYOND);
        Edges.is("21, at: BEYOND, NONE", x.at(24), Due.BEYOND);
        for (int i = 0; i < 3; i++) {
            x.drift(0, 0, 20);
        }
        Edges.is("5, seen: BEYOND, FULL", x.seen(0, 8, 0), Due.BEYOND);
        for (int i = 0; i < 5; i++) {
            x.term(0, 0, 0);
        }
        Edges.is("10, term: BEYOND, FULL", x.term(0, 0, 8), Due.BEYOND);
        x.span(0, 1, 5, 9);
        Edges.is("14, change: BEYOND, STATE", x.change(0, 5, 8), Due.BEYOND);
        Edges.is("14, change: STATE, FULL", x.change(0, 5, 1), Due.STATE);
        Edges.is("14, change: STATE behind the last day, FULL", x.change(0, 10, 1), Due.STATE);
        Edges.is("14, change: BEYOND, FULL", x.change(0, 6, 8), Due.BEYOND);
        Edges.is("14, change: FULL", x.change(0, 6, 1), Due.FULL);
        Edges.is("17, kept: BEYOND, NONE", x.kept(0, 30), Due.BEYOND);
        Edges.is("19, breach: BEYOND, NONE", x.breach(6, 0), Due.BEYOND);
        Edges.is("20, way: BEYOND, NONE", x.way(0, 30), Due.BEYOND);
        Edges.is("24, bars: BEYOND, NONE", x.bars(6, 0), Due.BEYOND);
        Edges.is("26, strict: BEYOND, NONE", x.strict(10, 9, -1), Due.BEYOND);
    }

    private static void orderOfSuretiesAndTexts() {
        ReleaseTerms x = Edges.edge("Terms", ORDER);
        x.surety(0, 100, 1);
        x.bail(0, 10);
        x.call(0);
        Edges.is("27, surety: BEYOND, STATE", x.surety(0, 10000, 0), Due.BEYOND);
        Edges.is("28, bail: BEYOND, STATE", x.bail(0, 10000), Due.BEYOND);
        Edges.is("29, call: BEYOND, STATE", x.call(6), Due.BEYOND);
        x.hearing(0, 0);
        x.hearing(1, 0);
        Edges.is("32, hearing: BEYOND, FULL", x.hearing(6, 0), Due.BEYOND);
        Edges.is("33, heard: BEYOND, NONE", x.heard(6), Due.BEYOND);
        Due.put(x, " ".repeat(120));
        Edges.is("35, feed: BEYOND, FULL", x.feed(0, 5), Due.BEYOND);
        Edges.is("35, feed: BEYOND with n 0, FULL", x.feed(0, 0), Due.BEYOND);
        Edges.is("39, as: BEYOND by the spot, MISSING", x.as(10, 0), Due.BEYOND);
        Edges.is("39, as: BEYOND by the kind, MISSING", x.as(0, 7), Due.BEYOND);
        x.term(1, 0, 0);
        x.hold(0, 0);
        Edges.is("39, as: BEYOND, KIND", x.as(0, 7), Due.BEYOND);
        Edges.is("nothing else was told", x.status(-1), x.status(0));
    }

    private static void orderOfSheets() {
        ReleaseTerms x = Edges.edge("Terms", ORDER);
        Edges.is("40, sheet: BEYOND by the sheet, SIZE", x.sheet(4, 8, -1), Due.BEYOND);
        Edges.is("40, sheet: BEYOND by the bits, SIZE", x.sheet(0, 9, -1), Due.BEYOND);
        Edges.is("41, write: BEYOND, MISSING", x.write(4, 0, 0), Due.BEYOND);
        Edges.is("41, write: MISSING, BEYOND", x.write(0, -1, 0), Due.MISSING);
        x.sheet(0, 8, 2);
        x.sheet(1, 16, 2);
        Edges.is("42, copy: BEYOND, MISSING", x.copy(4, 0, 2, 0, 1), Due.BEYOND);
        Edges.is("42, copy: BEYOND by the second, MISSING", x.copy(2, 0, 4, 0, 1), Due.BEYOND);
        Edges.is("42, copy: MISSING, KIND, BEYOND", x.copy(0, 0, 2, 0, -1), Due.MISSING);
        Edges.is("42, copy: MISSING by the first, BEYOND", x.copy(2, -1, 0, 0, 1), Due.MISSING);
        Edges.is("42, copy: KIND, BEYOND", x.copy(0, 0, 1, 0, 3), Due.KIND);
        Edges.is("43, load: BEYOND, MISSING", x.load(4, 0, 0), Due.BEYOND);
        Edges.is("43, load: MISSING, BEYOND", x.load(2, 6, 0), Due.MISSING);
        Edges.is("43, load: MISSING, BEYOND by the day", x.load(2, 0, 30), Due.MISSING);
        Edges.is("44, judge: BEYOND, MISSING", x.judge(4, 0, 0), Due.BEYOND);
        Edges.is("44, judge: MISSING, BEYOND", x.judge(2, 6, 0), Due.MISSING);
        Edges.is("44, judge: MISSING, BEYOND by the day", x.judge(2, 0, 30), Due.MISSING);
    }

    // ---- one that answers a finding changes nothing but status()

    private interface Act {
        int on(ReleaseTerms x);
    }

    /** Two objects with the same calls, but that one of them is asked for something that it refuses. */
    private static void refused(boolean full, String call, int finding, Act act) {
        ReleaseTerms asked = new ReleaseTerms();
        ReleaseTerms other = new ReleaseTerms();
        setUp(asked, full);
        setUp(other, full);
        Edges.is(call, act.on(asked), finding);
        for (int which = -1; which < 7; which++) {
            int more = which == -1 || Due.BEYOND - which == finding ? 1 : 0;
            Edges.is(call + ", then status(" + which + ")", asked.status(which), other.status(which) + more);
        }
        List<Integer> got = view(asked);
        List<Integer> want = view(other);
        for (int i = 0; i < want.size(); i++) {
            Edges.is(call + ", then answer " + i + " of all", got.get(i), want.get(i));
        }
    }

    /** Something of everything; full: with no room for sightings, terms and bytes. An image is kept of other things. */
    private static void setUp(ReleaseTerms x, boolean full) {
        x.road(0, 1, true);
        x.seen(2, 3, 0);
        x.way(2, 0);
        x.term(2, 0, 1);
        x.image();
        x.road(1, 2, true);
        x.seen(0, 1, 5);
        x.seen(4, 0, 500);
        x.seen(4, 7, 501);
        x.span(0, 0, 8, 12);
        x.span(0, 1, 3, 9);
        for (int place = 0; place < 5; place++) {
            x.term(6, 1, place);
        }
        x.surety(0, 100, 1);
        x.surety(1, 50, 3);
        x.bail(0, 120);
        x.bail(1, 20);
        x.call(0);
        x.hearing(0, 4);
        x.hearing(1, 4);
        x.seed(77);
        x.hold(0, 0);
        x.hold(9, 5);
        x.sheet(0, 8, 6);
        x.write(0, 1, 1);
        x.sheet(1, 16, 5);
        x.write(1, 2, 4);
        Due.put(x, "road 4 5");
        if (full) {
            Due.put(x, " ".repeat(112));
            x.drift(5, 20, 20);
            x.drift(5, 20, 20);
            x.drift(5, 20, 20);
            for (int i = 0; i < 5; i++) {
                x.term(4, 2, i);
            }
            x.term(0, 3, 0);
        }
    }

    /** All that can be told, by fewer calls than an object is good for. */
    private static List<Integer> view(ReleaseTerms x) {
        List<Integer> all = new ArrayList<>();
        for (int hour = 0; hour < 24; hour++) {
            all.add(x.at(hour));
        }
        int sightings = x.many(0);
        for (int s = Math.max(0, sightings - 4); s < sightings; s++) {
            for (int what = 0; what < 5; what++) {
                all.add(x.seenOf(s, what));
            }
        }
        viewOfBook(x, all);
        all.add(x.text());
        all.add(x.roads(4));
        all.add(x.undo());
        viewOfBook(x, all);
        for (int s = 0; s < 4; s++) {
            all.add(x.load(s, 5, s));
            for (int hour = 0; hour < 6; hour++) {
                all.add(x.where(5, 100 * s + hour));
            }
        }
        return all;
    }

    private static void viewOfBook(ReleaseTerms x, List<Integer> all) {
        for (int what = 0; what < 7; what++) {
            all.add(x.many(what));
        }
        for (int place = 0; place < 8; place++) {
            all.add(x.roads(place));
        }
        for (int term = 0; term < Math.min(7, x.many(1)); term++) {
            for (int what = 0; what < 7; what++) {
                all.add(x.termOf(term, what));
            }
        }
        for (int surety = 0; surety < 5; surety++) {
            for (int what = 0; what < 4; what++) {
                all.add(x.suretyOf(surety, what));
            }
        }
        for (int person = 0; person < 6; person++) {
            all.add(x.heard(person));
            all.add(x.back(person));
            all.add(x.bail(person, 0));
        }
        for (int spot = 0; spot < 10; spot++) {
            all.add(x.as(spot, 0));
        }
    }

    private static void refusedChangesNothing() {
        Edges.edge("Terms", "one that answers a finding changes nothing but status()");
        refusedPlaces();
        refusedTerms();
        refusedWays();
        refusedSureties();
        refusedSheets();
        refusedFull();
    }

    private static void refusedPlaces() {
        refused(false, "road(0, 8, true)", Due.BEYOND, x -> x.road(0, 8, true));
        refused(false, "road(-1, 0, true)", Due.BEYOND, x -> x.road(-1, 0, true));
        refused(false, "road(0, 0, true)", Due.BEYOND, x -> x.road(0, 0, true));
        refused(false, "road(1, 1, false)", Due.BEYOND, x -> x.road(1, 1, false));
        refused(false, "roads(8)", Due.BEYOND, x -> x.roads(8));
        refused(false, "far(8, 0)", Due.BEYOND, x -> x.far(8, 0));
        refused(false, "far(0, 7)", Due.NONE, x -> x.far(0, 7));
        refused(false, "seen(6, 0, 0)", Due.BEYOND, x -> x.seen(6, 0, 0));
        refused(false, "seen(0, 8, 0)", Due.BEYOND, x -> x.seen(0, 8, 0));
        refused(false, "seen(0, 0, 24)", Due.BEYOND, x -> x.seen(0, 0, 24));
        refused(false, "seenOf(0, 5)", Due.BEYOND, x -> x.seenOf(0, 5));
        refused(false, "where(6, 0)", Due.BEYOND, x -> x.where(6, 0));
        refused(false, "where(0, 0)", Due.NONE, x -> x.where(0, 0));
        refused(false, "could(6, 0)", Due.BEYOND, x -> x.could(6, 0));
        refused(false, "drift(6, 0, 1)", Due.BEYOND, x -> x.drift(6, 0, 1));
        refused(false, "drift(0, 30, 1)", Due.BEYOND, x -> x.drift(0, 30, 1));
        refused(false, "drift(0, 0, 21)", Due.BEYOND, x -> x.drift(0, 0, 21));
    }

    private static void refusedTerms() {
        refused(false, "term(7, 0, 0)", Due.BEYOND, x -> x.term(7, 0, 0));
        refused(false, "term(0, 6, 0)", Due.BEYOND, x -> x.term(0, 6, 0));
        refused(false, "term(0, 0, 8)", Due.BEYOND, x -> x.term(0, 0, 8));
        refused(false, "term(0, 1, 0)", Due.FULL, x -> x.term(0, 1, 0));
        refused(false, "termOf(0, 8)", Due.BEYOND, x -> x.termOf(0, 8));
        refused(false, "span(6, 0, 0, 0)", Due.BEYOND, x -> x.span(6, 0, 0, 0));
        refused(false, "span(0, 2, 0, 0)", Due.BEYOND, x -> x.span(0, 2, 0, 0));
        refused(false, "span(0, 0, 2, 24)", Due.BEYOND, x -> x.span(0, 0, 2, 24));
        refused(false, "span(0, 1, 2, 1)", Due.BEYOND, x -> x.span(0, 1, 2, 1));
        refused(false, "turn(0, 7)", Due.BEYOND, x -> x.turn(0, 7));
        refused(false, "turn(6, 0)", Due.BEYOND, x -> x.turn(6, 0));
        refused(false, "change(0, 0, 0)", Due.BEYOND, x -> x.change(0, 0, 0));
        refused(false, "change(0, 5, 8)", Due.BEYOND, x -> x.change(0, 5, 8));
        refused(false, "change(0, 3, 2)", Due.STATE, x -> x.change(0, 3, 2));
        refused(false, "change(0, 10, 2)", Due.STATE, x -> x.change(0, 10, 2));
        refused(false, "change(1, 5, 2)", Due.FULL, x -> x.change(1, 5, 2));
        refused(false, "bad(6)", Due.BEYOND, x -> x.bad(6));
        refused(false, "inForce(0, 30)", Due.BEYOND, x -> x.inForce(0, 30));
        refused(false, "kept(0, 30)", Due.BEYOND, x -> x.kept(0, 30));
        refused(false, "kept(0, 2)", Due.NONE, x -> x.kept(0, 2));
        refused(false, "count(0, 2, 1, 0)", Due.BEYOND, x -> x.count(0, 2, 1, 0));
        refused(false, "breach(0, 30)", Due.BEYOND, x -> x.breach(0, 30));
        refused(false, "breach(3, 0)", Due.NONE, x -> x.breach(3, 0));
    }

    private static void refusedWays() {
        refused(false, "way(0, 30)", Due.BEYOND, x -> x.way(0, 30));
        refused(false, "way(4, 5)", Due.NONE, x -> x.way(4, 5));
        refused(false, "way(1, 0)", Due.NONE, x -> x.way(1, 0));
        refused(false, "at(24)", Due.BEYOND, x -> x.at(24));
        refused(false, "may(0, 24)", Due.BEYOND, x -> x.may(0, 24));
        refused(false, "ways(0, 30)", Due.BEYOND, x -> x.ways(0, 30));
        refused(false, "bars(0, 30)", Due.BEYOND, x -> x.bars(0, 30));
        refused(false, "bars(3, 0)", Due.NONE, x -> x.bars(3, 0));
        refused(false, "bars(4, 5)", Due.NONE, x -> x.bars(4, 5));
        refused(false, "risk(11, 1, 0, 0)", Due.BEYOND, x -> x.risk(11, 1, 0, 0));
        refused(false, "strict(0, 0, 0)", Due.BEYOND, x -> x.strict(0, 0, 0));
        refused(false, "strict(10, 9, 0)", Due.NONE, x -> x.strict(10, 9, 0));
    }

    private static void refusedSureties() {
        refused(false, "surety(2, 10000, 1)", Due.BEYOND, x -> x.surety(2, 10000, 1));
        refused(false, "surety(2, 1, 64)", Due.BEYOND, x -> x.surety(2, 1, 64));
        refused(false, "surety(0, 5, 5)", Due.STATE, x -> x.surety(0, 5, 5));
        refused(false, "surety(1, 5, 5)", Due.STATE, x -> x.surety(1, 5, 5));
        refused(false, "bail(1, 10000)", Due.BEYOND, x -> x.bail(1, 10000));
        refused(false, "bail(0, 5)", Due.STATE, x -> x.bail(0, 5));
        refused(false, "call(6)", Due.BEYOND, x -> x.call(6));
        refused(false, "call(0)", Due.STATE, x -> x.call(0));
        refused(false, "back(6)", Due.BEYOND, x -> x.back(6));
        refused(false, "suretyOf(0, 8)", Due.BEYOND, x -> x.suretyOf(0, 8));
        refused(false, "hearing(0, 30)", Due.BEYOND, x -> x.hearing(0, 30));
        refused(false, "hearing(2, 4)", Due.FULL, x -> x.hearing(2, 4));
        refused(false, "heard(6)", Due.BEYOND, x -> x.heard(6));
        refused(false, "heard(2)", Due.NONE, x -> x.heard(2));
        refused(false, "feed(0, 5)", Due.BEYOND, x -> x.feed(0, 5));
        refused(false, "feed(0, 0)", Due.BEYOND, x -> x.feed(0, 0));
    }

    private static void refusedSheets() {
        refused(false, "hold(0, 6)", Due.BEYOND, x -> x.hold(0, 6));
        refused(false, "hold(0, -2)", Due.BEYOND, x -> x.hold(0, -2));
        refused(false, "hold(10, 0)", Due.BEYOND, x -> x.hold(10, 0));
        refused(false, "as(0, 7)", Due.BEYOND, x -> x.as(0, 7));
        refused(false, "as(1, 0)", Due.MISSING, x -> x.as(1, 0));
        refused(false, "as(0, 1)", Due.KIND, x -> x.as(0, 1));
        refused(false, "sheet(0, 7, 3)", Due.BEYOND, x -> x.sheet(0, 7, 3));
        refused(false, "sheet(0, 16, 41)", Due.BEYOND, x -> x.sheet(0, 16, 41));
        refused(false, "sheet(0, 16, -1)", Due.SIZE, x -> x.sheet(0, 16, -1));
        refused(false, "sheet(0, 0, -1)", Due.SIZE, x -> x.sheet(0, 0, -1));
        refused(false, "write(4, 0, 1)", Due.BEYOND, x -> x.write(4, 0, 1));
        refused(false, "write(2, 0, 1)", Due.MISSING, x -> x.write(2, 0, 1));
        refused(false, "write(0, 6, 1)", Due.BEYOND, x -> x.write(0, 6, 1));
        refused(false, "copy(0, 1, 0, 2, 5)", Due.BEYOND, x -> x.copy(0, 1, 0, 2, 5));
        refused(false, "copy(0, 1, 2, 0, 1)", Due.MISSING, x -> x.copy(0, 1, 2, 0, 1));
        refused(false, "copy(0, 1, 1, 0, 1)", Due.KIND, x -> x.copy(0, 1, 1, 0, 1));
        refused(false, "load(0, 6, 0)", Due.BEYOND, x -> x.load(0, 6, 0));
        refused(false, "load(2, 0, 0)", Due.MISSING, x -> x.load(2, 0, 0));
        refused(false, "judge(0, 0, 30)", Due.BEYOND, x -> x.judge(0, 0, 30));
        refused(false, "judge(2, 0, 0)", Due.MISSING, x -> x.judge(2, 0, 0));
        refused(false, "many(7)", Due.BEYOND, x -> x.many(7));
        refused(false, "status(7)", Due.BEYOND, x -> x.status(7));
    }

    private static void refusedFull() {
        refused(true, "seen(0, 0, 0)", Due.FULL, x -> x.seen(0, 0, 0));
        refused(true, "term(0, 0, 0)", Due.FULL, x -> x.term(0, 0, 0));
        refused(true, "change(0, 4, 0)", Due.FULL, x -> x.change(0, 4, 0));
        refused(true, "feed(-1, 1)", Due.FULL, x -> x.feed(-1, 1));
        ReleaseTerms x = new ReleaseTerms();
        x.road(0, 1, true);
        Edges.is("undo() with nothing kept", x.undo(), Due.NONE);
        Edges.is("the road stays", x.many(2), 1);
    }

    private static void quotientsAndSets() {
        ReleaseTerms x = Edges.edge("Terms", "Quotients are cut.");
        Edges.is("-1 by 100 is 0, but no hour is -1", x.seen(0, 0, -1), Due.BEYOND);
        Edges.is("-77 by 100 is 0, but no hour is -77", x.where(0, -77), Due.BEYOND);
        Edges.is("-99 by 100 is 0", x.could(0, -99), Due.BEYOND);
        Edges.is("2923 by 100 is 29", x.seen(0, 0, 2923), 0);
        Edges.is("its day", x.seenOf(0, 2), 29);
        x = Edges.edge("Terms", "Sets are told as bits; of several that would do the least number counts, "
                + "where nothing else is told.");
        x.road(0, 7, true);
        Edges.is("roads(0)", x.roads(0), 128);
        Edges.is("roads(7)", x.roads(7), 1);
        x.term(1, 0, 0);
        x.term(1, 0, 0);
        x.term(0, 0, 0);
        x.span(2, 0, 5, 5);
        x.span(0, 0, 5, 5);
        x.span(1, 0, 4, 4);
        Edges.is("terms as bits", x.inForce(0, 0), 7);
        Edges.is("without 0 there is a way, and without 2", x.bars(0, 0), 0);
    }
}
