/** Promises 45 to 49: images, many, status. */
final class EdgesOfImages {
    private EdgesOfImages() {
    }

    static void run() {
        image();
        imageToTheLast();
        imageLeavesOut();
        undo();
        tear();
        many();
        status();
    }

    private static void image() {
        ReleaseTerms x = Edges.edge("Promise 45", "All but THE TAPE, SHEETS and the way told is kept: 1.");
        Edges.is("of a new object", x.image(), 1);
        x.road(0, 1, true);
        x.seen(0, 0, 0);
        x.term(0, 0, 0);
        x.surety(0, 5, 1);
        x.bail(0, 3);
        x.call(0);
        x.hearing(0, 0);
        x.seed(9);
        x.hold(0, 0);
        Edges.is("no terms", x.undo(), 0);
        int[] many = {0, 0, 0, 0, 0, 1, 0};
        for (int what = 0; what < 7; what++) {
            Edges.is("many(" + what + ")", x.many(what), many[what]);
        }
        Edges.is("no hearing", x.heard(0), Due.NONE);
        Edges.is("no spot holds a term", x.as(0, 0), Due.MISSING);
        Edges.is("nothing is given", x.back(0), 0);
        Edges.is("nobody is backed", x.suretyOf(0, 1), 0);
        Edges.is("no bail", x.bail(0, 0), 0);
        x = Edges.edge("Promise 45", "All but THE TAPE, SHEETS and the way told is kept");
        x.term(0, 0, 0);
        x.image();
        x.span(0, 0, 5, 6);
        x.span(0, 1, 7, 8);
        x.turn(0, 6);
        x.undo();
        int[] term = {0, 0, 0, 0, 23, 0, 29, 0};
        for (int what = 0; what < 8; what++) {
            Edges.is("termOf(0, " + what + ")", x.termOf(0, what), term[what]);
        }
    }

    /** The last term, sighting, surety, person and spot are kept too. */
    private static void imageToTheLast() {
        ReleaseTerms x = Edges.edge("Promise 45", "All but THE TAPE, SHEETS and the way told is kept");
        for (int term = 0; term < 12; term++) {
            x.term(term % 7, term % 3, term % 8);
        }
        x.surety(4, 50, 32);
        x.bail(5, 20);
        x.call(5);
        x.hearing(5, 29);
        x.hold(9, 11);
        x.hold(0, 3);
        x.road(6, 7, true);
        x.drift(5, 29, 20);
        x.image();
        for (int term = 0; term < 12; term++) {
            x.turn(term, 6);
            x.span(term, 0, 1, 2);
            x.span(term, 1, 3, 4);
        }
        x.back(5);
        x.bail(5, 1);
        x.surety(4, 60, 33);
        x.hearing(5, 28);
        x.hold(9, 10);
        x.hold(0, -1);
        x.hold(5, 0);
        x.road(6, 7, false);
        x.drift(5, 29, 20);
        x.drift(5, 29, 20);
        Edges.is("twelve terms", x.undo(), 12);
        for (int term = 0; term < 12; term++) {
            int[] want = {term % 7, term % 3, term % 8, 0, 23, 0, 29};
            for (int what = 0; what < 7; what++) {
                Edges.is("termOf(" + term + ", " + what + ")", x.termOf(term, what), want[what]);
            }
        }
        Edges.is("room", x.suretyOf(4, 0), 30);
        Edges.is("backed", x.suretyOf(4, 1), 32);
        Edges.is("given", x.suretyOf(4, 7), 20);
        Edges.is("heard", x.heard(5), 29);
        Edges.is("spot 9", x.as(9, 0), 11);
        Edges.is("spot 0", x.as(0, 0), 3);
        Edges.is("spot 5", x.as(5, 0), Due.MISSING);
        Edges.is("roads", x.roads(7), 64);
        Edges.is("sightings", x.many(0), 20);
        Edges.is("which all are there", x.seenOf(19, 0), 5);
        x.back(5);
        Edges.is("bail", x.bail(5, 0), 20);
    }

    private static void imageLeavesOut() {
        ReleaseTerms x = Edges.edge("Promise 45", "All but THE TAPE, SHEETS and the way told is kept");
        x.feed(0, 2);
        x.sheet(0, 8, 1);
        x.sheet(1, 8, 1);
        x.way(0, 0);
        x.image();
        x.feed(0, 3);
        x.sheet(0, 8, 2);
        x.write(0, 1, 6);
        x.sheet(1, 0, 0);
        x.seen(0, 4, 0);
        x.way(0, 0);
        x.undo();
        Edges.is("the tape is not kept", x.many(4), 5);
        Edges.is("sheets are not kept", x.load(0, 0, 0), 2);
        Edges.is("nor their numbers", x.where(0, 1), 6);
        Edges.is("nor that one was there", x.load(1, 0, 0), Due.MISSING);
        Edges.is("the way told is not kept", x.at(0), 4);
        x = Edges.edge("Promise 45", "All but THE TAPE, SHEETS and the way told is kept");
        x.image();
        x.way(0, 0);
        x.undo();
        Edges.is("a way told behind the image stays told", x.at(0), 0);
    }

    private static void undo() {
        ReleaseTerms x = Edges.edge("Promise 46", "It becomes what was kept latest (which stays): how many TERMS.");
        x.term(0, 0, 0);
        x.image();
        x.term(0, 0, 0);
        x.image();
        x.term(0, 0, 0);
        Edges.is("the latest", x.undo(), 2);
        x.term(1, 1, 1);
        x.term(1, 1, 1);
        Edges.is("which stays", x.undo(), 2);
        Edges.is("and again", x.undo(), 2);
        x.turn(0, 3);
        Edges.is("what changes behind it does not change it", x.undo() + x.termOf(0, 0), 2);
        x = Edges.edge("Promise 46", "NONE: nothing is kept.");
        Edges.is("at first", x.undo(), Due.NONE);
        x.image();
        Edges.is("kept", x.undo(), 0);
        x.tear();
        x.road(0, 1, true);
        Edges.is("torn", x.undo(), Due.NONE);
        Edges.is("nothing changes then", x.many(2), 1);
    }

    private static void tear() {
        ReleaseTerms x = Edges.edge("Promise 47", "Nothing is kept: 1 if something was, else 0.");
        Edges.is("nothing was", x.tear(), 0);
        x.term(0, 0, 0);
        x.image();
        x.image();
        Edges.is("something was", x.tear(), 1);
        Edges.is("nothing is any more, not even an earlier one", x.tear(), 0);
        Edges.is("nor to go back to", x.undo(), Due.NONE);
        Edges.is("the terms stay", x.many(1), 1);
        Edges.is("no finding by tear()", x.status(-1), 1);
        x.image();
        Edges.is("kept anew", x.undo(), 1);
    }

    private static void many() {
        ReleaseTerms x = Edges.edge("Promise 48", "0 SIGHTINGS, 1 TERMS, 2 ROADS, 3 HEARINGS, 4 bytes of THE TAPE, 5 z, "
                + "6 ROOM of all SURETIES.");
        int[] none = {0, 0, 0, 0, 0, 1, 0};
        for (int what = 0; what < 7; what++) {
            Edges.is("at first, what " + what, x.many(what), none[what]);
        }
        for (int i = 0; i < 3; i++) {
            x.drift(0, 0, 20);
        }
        for (int term = 0; term < 12; term++) {
            x.term(0, term % 3, 0);
        }
        for (int one = 0; one < 8; one++) {
            for (int other = 0; other < one; other++) {
                x.road(one, other, true);
            }
        }
        for (int person = 0; person < 6; person++) {
            x.hearing(person, person);
        }
        for (int i = 0; i < 30; i++) {
            x.feed(0, 4);
        }
        for (int surety = 0; surety < 5; surety++) {
            x.surety(surety, 9999, 63);
        }
        x.seed(-1000001);
        int[] all = {60, 12, 28, 6, 120, -1000001, 5 * 9999};
        for (int what = 0; what < 7; what++) {
            Edges.is("as many as can be, what " + what, x.many(what), all[what]);
        }
        x.bail(0, 9999);
        x.call(0);
        Edges.is("what is given is no room", x.many(6), 4 * 9999);
        Edges.is("z that looks like a finding is none", x.status(-1), 0);
        x = Edges.edge("Promise 48", "BEYOND: another what.");
        Edges.within(x, "what", 0, 6, ReleaseTerms::many);
    }

    private static void status() {
        ReleaseTerms x = Edges.edge("Promise 49", "How many acts answered a finding ever (undo() takes none back): "
                + "which -1: all, 0 to 6: BEYOND to SIZE.");
        for (int which = -1; which < 7; which++) {
            Edges.is("none yet, " + which, x.status(which), 0);
        }
        x.image();
        x.roads(8);
        x.hearing(0, 0);
        x.hearing(1, 0);
        x.hearing(2, 0);
        x.hearing(3, 0);
        x.term(0, 0, 0);
        x.hold(0, 0);
        x.as(0, 1);
        x.as(0, 2);
        x.as(0, 3);
        x.undo();
        for (int i = 0; i < 4; i++) {
            x.heard(0);
        }
        x.term(0, 0, 0);
        x.span(0, 1, 3, 3);
        for (int i = 0; i < 5; i++) {
            x.change(0, 3, 0);
        }
        for (int i = 0; i < 6; i++) {
            x.write(0, 0, 0);
        }
        for (int i = 0; i < 7; i++) {
            x.sheet(0, 8, -1);
        }
        x.undo();
        for (int which = 0; which < 7; which++) {
            Edges.is("which " + which, x.status(which), which + 1);
        }
        Edges.is("all", x.status(-1), 28);
        x.tear();
        x.undo();
        Edges.is("an undo() that answers a finding is one more", x.status(3), 5);
        x = Edges.edge("Promise 49", "BEYOND (counted from then on): another one.");
        Edges.is("7", x.status(7), Due.BEYOND);
        Edges.is("counted from then on", x.status(0), 1);
        Edges.is("-2", x.status(-2), Due.BEYOND);
        Edges.is("counted too", x.status(-1), 2);
        Edges.within(x, "which", -1, 6, ReleaseTerms::status);
        Edges.is("four more", x.status(0), 6);
    }
}
