/** Promises 1 to 9: a new object, places, sightings. */
final class EdgesOfPlaces {
    private EdgesOfPlaces() {
    }

    static void run() {
        newObject();
        road();
        roads();
        far();
        seen();
        seenOf();
        where();
        could();
        drift();
    }

    private static void newObject() {
        ReleaseTerms x = Edges.edge("Promise 1", "All as at first; no ROADS, SIGHTINGS, TERMS, HEARINGS; "
                + "THE TAPE is empty, no image is kept.");
        int[] many = {0, 0, 0, 0, 0, 1, 0};
        for (int what = 0; what < 7; what++) {
            Edges.is("many(" + what + ")", x.many(what), many[what]);
        }
        Edges.is("no finding yet", x.status(-1), 0);
        Edges.is("the tape is empty", x.wipe(), 0);
        Edges.is("no image is kept", x.tear(), 0);
        Edges.is("none to go back to", x.undo(), Due.NONE);
        Edges.is("no way is told", x.at(0), Due.NONE);
        for (int s = 0; s < 4; s++) {
            Edges.is("no sheet", x.judge(s, 0, 0), Due.MISSING);
        }
        for (int spot = 0; spot < 10; spot++) {
            Edges.is("no spot holds a term", x.as(spot, 0), Due.MISSING);
        }
        for (int person = 0; person < 6; person++) {
            Edges.is("no hearing", x.heard(person), Due.NONE);
            Edges.is("nothing given", x.back(person), 0);
            Edges.is("no bail", x.bail(person, 0), 0);
        }
        ReleaseTerms other = new ReleaseTerms();
        other.road(0, 1, true);
        other.seed(5);
        Edges.is("one object has nothing of another", x.many(2), 0);
        Edges.is("nor its draws", x.many(5), 1);
    }

    private static void road() {
        ReleaseTerms x = Edges.edge("Promise 2", "There is a ROAD between two unlike PLACES, or not: "
                + "1 if there was, else 0. BEYOND.");
        Edges.is("there was none", x.road(0, 7, true), 0);
        Edges.is("there was one", x.road(0, 7, true), 1);
        Edges.is("there was one, and is none", x.road(7, 0, false), 1);
        Edges.is("there was none, and is none", x.road(0, 7, false), 0);
        Edges.is("none", x.many(2), 0);
        for (int place = 0; place < 8; place++) {
            Edges.is("two like places", x.road(place, place, true), Due.BEYOND);
            Edges.is("no road to itself", x.roads(place), 0);
        }
        Edges.isBeyond(x, "road(v, 0)", (o, v) -> o.road(v, 0, true), -1, 8, 32, 1 << 31, Integer.MAX_VALUE);
        Edges.isBeyond(x, "road(0, v)", (o, v) -> o.road(0, v, false), -1, 8, 32, 1 << 31, Integer.MAX_VALUE);
        Edges.is("two that are alike and beyond", x.road(9, 9, true), Due.BEYOND);
    }

    private static void roads() {
        ReleaseTerms x = Edges.edge("Promise 3", "PLACES to which there is a ROAD from one, as a set. BEYOND.");
        Edges.is("the empty set", x.roads(3), 0);
        for (int place = 0; place < 7; place++) {
            x.road(7, place, true);
        }
        Edges.is("all but itself", x.roads(7), 127);
        Edges.is("the last one", x.roads(0), 128);
        Edges.within(x, "roads", 0, 7, ReleaseTerms::roads);
    }

    private static void far() {
        ReleaseTerms x = Edges.edge("Promise 4", "The fewest MOVES from a PLACE to another one. BEYOND. "
                + "NONE: there is no way.");
        Edges.is("no roads", x.far(0, 7), Due.NONE);
        Edges.is("to itself", x.far(7, 7), 0);
        Due.line(x, 0, 7);
        Edges.is("as far as can be", x.far(0, 7), 7);
        Edges.is("and back", x.far(7, 0), 7);
        Edges.is("one road", x.far(3, 4), 1);
        x.road(0, 7, true);
        Edges.is("round the other way", x.far(0, 6), 2);
        Edges.is("as far as can be on a ring", x.far(0, 4), 4);
        x.road(0, 7, false);
        x.road(3, 4, false);
        Edges.is("cut in two", x.far(0, 4), Due.NONE);
        Edges.is("the near part", x.far(0, 3), 3);
        Edges.within(x, "far(v, 0)", 0, 7, (o, v) -> o.far(v, 0));
        Edges.within(x, "far(0, v)", 0, 7, (o, v) -> o.far(0, v));
    }

    private static void seen() {
        ReleaseTerms x = Edges.edge("Promise 5", "A SIGHTING: its number. when: 100 times the DAY, and the HOUR.");
        Edges.is("the first", x.seen(0, 0, 0), 0);
        Edges.is("the second", x.seen(5, 7, 2923), 1);
        Edges.is("its day", x.seenOf(1, 2), 29);
        Edges.is("its hour", x.seenOf(1, 3), 23);
        x = Edges.edge("Promise 5", "BEYOND.");
        Edges.isBeyond(x, "person", (o, v) -> o.seen(v, 0, 0), -1, 6);
        Edges.isBeyond(x, "place", (o, v) -> o.seen(0, v, 0), -1, 8);
        Edges.isBeyond(x, "hour", (o, v) -> o.seen(0, 0, v), 24, 99, 124, 2824, 2924, 2999);
        Edges.isBeyond(x, "day", (o, v) -> o.seen(0, 0, v), 3000, 3023, 10000, -100, -2900);
        Edges.is("none came", x.many(0), 0);
        x = Edges.edge("Promise 5", "FULL.");
        for (int s = 0; s < 59; s++) {
            x.seen(0, 0, 0);
        }
        Edges.is("the 60th", x.seen(0, 1, 0), 59);
        Edges.is("the 61st", x.seen(0, 2, 0), Due.FULL);
        Edges.is("even of an hour that has one", x.where(0, 0), 1);
    }

    private static void seenOf() {
        ReleaseTerms x = Edges.edge("Promise 6", "Of a SIGHTING: what 0 PERSON, 1 PLACE, 2 DAY, 3 HOUR, "
                + "4 1 if it counts, else 0 (a later one is told). BEYOND.");
        Edges.is("none is there", x.seenOf(0, 0), Due.BEYOND);
        x.seen(5, 7, 2923);
        int[] want = {5, 7, 29, 23, 1};
        for (int what = 0; what < 5; what++) {
            Edges.is("what " + what, x.seenOf(0, what), want[what]);
        }
        x.seen(5, 7, 2923);
        Edges.is("a later one is told, though alike", x.seenOf(0, 4), 0);
        Edges.is("the later one counts", x.seenOf(1, 4), 1);
        x.seen(4, 7, 2923);
        x.seen(5, 7, 2823);
        x.seen(5, 7, 2922);
        Edges.is("of another person, day or hour", x.seenOf(1, 4), 1);
        Edges.within(x, "sighting", 0, 4, (o, v) -> o.seenOf(v, 0));
        Edges.within(x, "what", 0, 4, (o, v) -> o.seenOf(0, v));
    }

    private static void where() {
        ReleaseTerms x = Edges.edge("Promise 7", "Where a PERSON was seen (when as of seen()). BEYOND. NONE: not then.");
        x.seen(3, 0, 1500);
        Edges.is("place 0 is one", x.where(3, 1500), 0);
        Edges.is("not an hour later", x.where(3, 1501), Due.NONE);
        Edges.is("not an hour earlier", x.where(3, 1423), Due.NONE);
        Edges.is("not a day later", x.where(3, 1600), Due.NONE);
        Edges.is("not another person", x.where(2, 1500), Due.NONE);
        Edges.isBeyond(x, "person", (o, v) -> o.where(v, 1500), -1, 6);
        Edges.isBeyond(x, "when", (o, v) -> o.where(3, v), -1, 24, 1524, 2924, 3000);
    }

    private static void could() {
        ReleaseTerms x = Edges.edge("Promise 8", "PLACES at which a PERSON can have been then, by WAYS of that DAY, "
                + "as a set. BEYOND.");
        Due.line(x, 0, 7);
        Edges.is("all", x.could(0, 0), 255);
        x.seen(0, 0, 1);
        x.seen(0, 0, 4);
        Edges.is("one hour from both", x.could(0, 2), 3);
        x.seen(0, 0, 5);
        x.seen(0, 7, 12);
        Edges.is("no hour to spare", x.could(0, 9), 16);
        x.term(1, 0, 4);
        Edges.is("terms don't matter", x.could(0, 9), 16);
        x.seen(0, 7, 11);
        Edges.is("no way: the empty set", x.could(0, 9), 0);
        Edges.is("in every hour", x.could(0, 23), 0);
        Edges.is("even where they were seen", x.could(0, 11), 0);
        Edges.is("of that day", x.could(0, 109), 255);
        Edges.isBeyond(x, "person", (o, v) -> o.could(v, 0), -1, 6);
        Edges.isBeyond(x, "when", (o, v) -> o.could(0, v), -1, 24, 2924, 3000);
    }

    private static void drift() {
        ReleaseTerms x = Edges.edge("Promise 9", "n (1 to 20) SIGHTINGS of a PERSON are drawn on a DAY");
        Edges.is("one", x.drift(0, 0, 1), 1);
        Edges.is("twenty", x.drift(5, 29, 20), 21);
        Edges.within(x, "n", 1, 20, (o, v) -> o.drift(1, 1, v));
        x = Edges.edge("Promise 9", "each a PLACE (the rest of a draw by 8) and an HOUR (that of one more by 24): "
                + "how many SIGHTINGS there are then.");
        x.seed(123456789);
        Edges.is("three", x.drift(4, 11, 3), 3);
        long z = 123456789;
        for (int s = 0; s < 3; s++) {
            z = (z * 1103515245L + 12345L) & 0xffffffffL;
            Edges.is("place " + s, x.seenOf(s, 1), (int) (z / 256 % 8));
            z = (z * 1103515245L + 12345L) & 0xffffffffL;
            Edges.is("hour " + s, x.seenOf(s, 3), (int) (z / 256 % 24));
            Edges.is("person " + s, x.seenOf(s, 0), 4);
            Edges.is("day " + s, x.seenOf(s, 2), 11);
        }
        Edges.is("two draws each", x.many(5), (int) z);
        x = Edges.edge("Promise 9", "It ends, if there are 60.");
        x.drift(0, 0, 20);
        x.drift(0, 0, 20);
        Edges.is("just 60", x.drift(0, 0, 20), 60);
        int behind = x.many(5);
        Edges.is("no more", x.drift(0, 0, 20), 60);
        Edges.is("no draw either", x.many(5), behind);
        Edges.is("and no finding", x.status(-1), 0);
        x = Edges.edge("Promise 9", "It ends, if there are 60.");
        for (int s = 0; s < 59; s++) {
            x.seen(0, 0, 0);
        }
        Edges.is("one of two", x.drift(0, 0, 2), 60);
        int one = 1 * 1103515245 + 12345;
        Edges.is("two draws, not four", x.many(5), one * 1103515245 + 12345);
        x = Edges.edge("Promise 9", "BEYOND.");
        Edges.isBeyond(x, "person", (o, v) -> o.drift(v, 0, 1), -1, 6);
        Edges.isBeyond(x, "day", (o, v) -> o.drift(0, v, 1), -1, 30);
        Edges.isBeyond(x, "n", (o, v) -> o.drift(0, 0, v), 0, 21, -20);
        Edges.is("no draw", x.many(5), 1);
        Edges.is("no sighting", x.many(0), 0);
    }
}
