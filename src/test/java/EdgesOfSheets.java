/** Promises 38 to 44: spots, sheets. */
final class EdgesOfSheets {
    private EdgesOfSheets() {
    }

    static void run() {
        hold();
        as();
        sheet();
        sheetFindings();
        write();
        writeFindings();
        copy();
        copyFindings();
        load();
        loadEnds();
        loadFindings();
        judge();
        judgeLengthAndAsked();
        judgeFindings();
    }

    private static void hold() {
        ReleaseTerms x = Edges.edge("Promise 38", "A SPOT holds a TERM, or nothing (-1): 1. BEYOND.");
        Edges.is("nothing, while there is no term", x.hold(0, -1), 1);
        Edges.is("no term", x.hold(0, 0), Due.BEYOND);
        for (int term = 0; term < 12; term++) {
            x.term(0, term % 3, 0);
        }
        Edges.is("the last term", x.hold(0, 11), 1);
        Edges.is("it holds it", x.as(0, 0), 11);
        Edges.is("two spots with one term", x.hold(9, 11), 1);
        Edges.is("a thirteenth", x.hold(0, 12), Due.BEYOND);
        Edges.is("less than nothing", x.hold(0, -2), Due.BEYOND);
        Edges.is("it holds it still", x.as(0, 0), 11);
        Edges.is("nothing", x.hold(0, -1), 1);
        Edges.is("nothing is held", x.as(0, 0), Due.MISSING);
        Edges.is("the other spot holds it", x.as(9, 0), 11);
        Edges.within(x, "spot", 0, 9, (o, v) -> o.hold(v, -1));
        Edges.within(x, "term", -1, 11, (o, v) -> o.hold(0, v));
    }

    private static void as() {
        ReleaseTerms x = Edges.edge("Promise 39", "What a SPOT holds as one of a kind (0 to 6): the number of the TERM. "
                + "BEYOND.");
        x.term(0, 0, 0);
        x.term(6, 0, 0);
        x.hold(4, 1);
        Edges.is("as its own kind", x.as(4, 6), 1);
        Edges.is("as the one at the top", x.as(4, 0), 1);
        Edges.within(x, "spot", 0, 9, (o, v) -> o.as(v, 0));
        Edges.within(x, "kind", 0, 6, (o, v) -> o.as(4, v));
        x = Edges.edge("Promise 39", "MISSING: it holds nothing.");
        Edges.is("as 0", x.as(0, 0), Due.MISSING);
        Edges.is("as 6", x.as(9, 6), Due.MISSING);
        x = Edges.edge("Promise 39", "KIND: it isn't of that kind, nor of one under it.");
        x.term(2, 0, 0);
        x.hold(0, 0);
        Edges.is("a report as a term", x.as(0, 0), 0);
        Edges.is("a report as a report", x.as(0, 2), 0);
        int[] others = {1, 3, 4, 5, 6};
        for (int kind : others) {
            Edges.is("a report as " + kind, x.as(0, kind), Due.KIND);
        }
        x.turn(0, 6);
        Edges.is("as a report when it is strict", x.as(0, 2), 0);
        x.turn(0, 4);
        Edges.is("a near one as barred", x.as(0, 1), 0);
        Edges.is("and no longer as a report", x.as(0, 2), Due.KIND);
    }

    private static void sheet() {
        ReleaseTerms x = Edges.edge("Promise 40", "A sheet has n numbers, all 0, of 8, 16 or 32 bits");
        int[] bits = {8, 16, 32};
        for (int s = 0; s < 3; s++) {
            Edges.is("40", x.sheet(s, bits[s], 40), 40);
            Edges.is("the last number", x.write(s, 39, 1), 1);
            Edges.is("none", x.sheet(s, bits[s], 0), 0);
            Edges.is("no number, though it is there", x.write(s, 0, 1), Due.BEYOND);
            Edges.is("three", x.sheet(s, bits[s], 3), 3);
            x.write(s, 0, 7);
            x.write(s, 2, 7);
            x.sheet(s, bits[s], 3);
            Edges.is("three zeros", x.load(s, s, 0), 3);
            Edges.is("the first is 0", x.where(s, 0), 0);
            Edges.is("the last is 0", x.where(s, 2), 0);
        }
        x = Edges.edge("Promise 40", "bits 0: it is MISSING: n (0 if it is MISSING).");
        x.sheet(0, 8, 5);
        Edges.is("0, not 5", x.sheet(0, 0, 5), 0);
        Edges.is("it is missing", x.write(0, 0, 0), Due.MISSING);
        Edges.is("missing again", x.sheet(0, 0, 0), 0);
        Edges.is("it comes again", x.sheet(0, 16, 1), 1);
        Edges.is("and is there", x.write(0, 0, 0), 1);
    }

    private static void sheetFindings() {
        ReleaseTerms x = Edges.edge("Promise 40", "BEYOND: no such sheet, other bits.");
        Edges.within(x, "sheet", 0, 3, (o, v) -> o.sheet(v, 8, 1));
        Edges.isBeyond(x, "bits", (o, v) -> o.sheet(0, v, 1), -1, 1, 7, 9, 12, 15, 17, 24, 31, 33, 64, -8,
                Integer.MIN_VALUE, Integer.MAX_VALUE);
        x = Edges.edge("Promise 40", "SIZE: n is below 0 (also with bits 0).");
        int[] bits = {0, 8, 16, 32};
        for (int b : bits) {
            Edges.is("-1 of " + b, x.sheet(0, b, -1), Due.SIZE);
            Edges.is("the least of " + b, x.sheet(0, b, Integer.MIN_VALUE), Due.SIZE);
        }
        x = Edges.edge("Promise 40", "BEYOND: n is above 40.");
        for (int b : bits) {
            Edges.is("41 of " + b, x.sheet(0, b, 41), Due.BEYOND);
            Edges.is("the greatest of " + b, x.sheet(0, b, Integer.MAX_VALUE), Due.BEYOND);
        }
        Edges.is("it is missing still", x.write(0, 0, 0), Due.MISSING);
    }

    private static void write() {
        ReleaseTerms x = Edges.edge("Promise 41", "Number i of a sheet becomes v (its lowest bits): 1.");
        x.sheet(0, 8, 3);
        x.sheet(1, 16, 3);
        x.sheet(2, 32, 3);
        Edges.is("256 + 6 of 8 bits", x.write(0, 0, 262), 1);
        Edges.is("65536 + 5 of 16 bits", x.write(1, 0, 65541), 1);
        Edges.is("the least int and 4 of 32 bits", x.write(2, 0, 4), 1);
        int[] ones = {255, 65535, -1};
        for (int s = 0; s < 3; s++) {
            x.write(s, 1, ones[s]);
            x.write(s, 2, 7);
            Edges.is("two are places, one is -1", x.load(s, s, 0), 2);
            Edges.is("the lowest bits", x.where(s, 0), 6 - s);
            Edges.is("all bits are -1", x.where(s, 1), Due.NONE);
            Edges.is("the last number", x.where(s, 2), 7);
        }
        x = Edges.edge("Promise 41", "(its lowest bits)");
        x.sheet(0, 8, 1);
        x.sheet(1, 16, 1);
        x.sheet(2, 32, 1);
        x.write(0, 0, 256);
        x.write(1, 0, 256);
        x.write(2, 0, 65536);
        Edges.is("256 of 8 bits is place 0", x.load(0, 0, 0), 1);
        Edges.is("256 of 16 bits is no place", x.load(1, 0, 0), 0);
        Edges.is("65536 of 32 bits is no place", x.load(2, 0, 0), 0);
        x.write(1, 0, Integer.MIN_VALUE);
        x.write(2, 0, Integer.MIN_VALUE);
        Edges.is("the least int of 16 bits is place 0", x.load(1, 0, 1), 1);
        Edges.is("the least int of 32 bits is no place", x.load(2, 0, 1), 0);
        x.write(0, 0, 127);
        Edges.is("127 is no place", x.load(0, 0, 2), 0);
        x.write(0, 0, 128);
        Edges.is("128 is no place", x.load(0, 0, 2), 0);
        Edges.is("and is not seen there", x.judge(0, 0, 5), 1);
    }

    private static void writeFindings() {
        ReleaseTerms x = Edges.edge("Promise 41", "BEYOND: no such sheet.");
        Edges.isBeyond(x, "sheet", (o, v) -> o.write(v, 0, 0), -1, 4, Integer.MIN_VALUE, Integer.MAX_VALUE);
        x = Edges.edge("Promise 41", "MISSING.");
        Edges.is("at first", x.write(3, 0, 0), Due.MISSING);
        x.sheet(3, 8, 1);
        Edges.is("there", x.write(3, 0, 0), 1);
        x.sheet(3, 0, 1);
        Edges.is("missing again", x.write(3, 0, 0), Due.MISSING);
        x = Edges.edge("Promise 41", "BEYOND: no such number.");
        x.sheet(0, 8, 40);
        x.sheet(1, 8, 1);
        Edges.within(x, "number of 40", 0, 39, (o, v) -> o.write(0, v, 0));
        Edges.within(x, "number of one", 0, 0, (o, v) -> o.write(1, v, 0));
        x.sheet(1, 8, 0);
        Edges.is("number of none", x.write(1, 0, 0), Due.BEYOND);
    }

    private static void fill(ReleaseTerms x, int s, int bits, String digits) {
        x.sheet(s, bits, digits.length());
        for (int i = 0; i < digits.length(); i++) {
            x.write(s, i, digits.charAt(i) - '0');
        }
    }

    private static void holds(ReleaseTerms x, int s, int day, String digits) {
        Edges.is("how many are on sheet " + s, x.load(s, 0, day), digits.length());
        for (int i = 0; i < digits.length(); i++) {
            Edges.is("number " + i + " of sheet " + s, x.where(0, 100 * day + i), digits.charAt(i) - '0');
        }
    }

    private static void copy() {
        ReleaseTerms x = Edges.edge("Promise 42", "n numbers of a sheet from one on come to another one from one on "
                + "(as they all were): n.");
        fill(x, 0, 8, "1234567");
        fill(x, 1, 8, "7000");
        Edges.is("to the end of the other one", x.copy(0, 4, 1, 1, 3), 3);
        holds(x, 1, 0, "7567");
        Edges.is("upward on one sheet", x.copy(0, 0, 0, 1, 6), 6);
        holds(x, 0, 1, "1123456");
        Edges.is("downward on one sheet", x.copy(0, 1, 0, 0, 6), 6);
        holds(x, 0, 2, "1234566");
        Edges.is("onto itself", x.copy(0, 0, 0, 0, 7), 7);
        holds(x, 0, 3, "1234566");
        Edges.is("none", x.copy(0, 0, 1, 0, 0), 0);
        Edges.is("none at both ends", x.copy(0, 7, 1, 4, 0), 0);
        holds(x, 1, 4, "7567");
        fill(x, 2, 32, "12");
        x.write(2, 0, Integer.MIN_VALUE + 3);
        x.sheet(3, 32, 2);
        x.copy(2, 0, 3, 0, 2);
        Edges.is("all bits come", x.load(3, 0, 5), 0);
        x.write(3, 0, 5);
        Edges.is("and only the first was no place", x.load(3, 0, 5), 2);
    }

    private static void copyFindings() {
        ReleaseTerms x = Edges.edge("Promise 42", "BEYOND: no such sheet (either).");
        x.sheet(0, 8, 1);
        Edges.within(x, "the first", 0, 3, (o, v) -> o.copy(v, 0, 0, 0, 1));
        Edges.within(x, "the second", 0, 3, (o, v) -> o.copy(0, 0, v, 0, 1));
        x = Edges.edge("Promise 42", "MISSING: one is.");
        x.sheet(0, 8, 1);
        Edges.is("the first", x.copy(1, 0, 0, 0, 1), Due.MISSING);
        Edges.is("the second", x.copy(0, 0, 1, 0, 1), Due.MISSING);
        Edges.is("both", x.copy(1, 0, 2, 0, 0), Due.MISSING);
        Edges.is("both, as one", x.copy(1, 0, 1, 0, 0), Due.MISSING);
        x = Edges.edge("Promise 42", "KIND: they are not of as many bits.");
        int[] bits = {8, 16, 32};
        for (int s = 0; s < 3; s++) {
            x.sheet(s, bits[s], 1);
        }
        for (int s = 0; s < 3; s++) {
            for (int t = 0; t < 3; t++) {
                Edges.is(bits[s] + " and " + bits[t], x.copy(s, 0, t, 0, 0), s == t ? 0 : Due.KIND);
            }
        }
        x = Edges.edge("Promise 42", "BEYOND: one has not so many, or from, to or n is below 0.");
        x.sheet(0, 16, 5);
        x.sheet(1, 16, 3);
        Edges.within(x, "from", 0, 3, (o, v) -> o.copy(0, v, 1, 0, 2));
        Edges.within(x, "to", 0, 1, (o, v) -> o.copy(0, 0, 1, v, 2));
        Edges.within(x, "n to the shorter one", 0, 3, (o, v) -> o.copy(0, 0, 1, 0, v));
        Edges.within(x, "n from the shorter one", 0, 3, (o, v) -> o.copy(1, 0, 0, 0, v));
        Edges.within(x, "none from", 0, 5, (o, v) -> o.copy(0, v, 1, 0, 0));
        Edges.within(x, "none to", 0, 3, (o, v) -> o.copy(0, 0, 1, v, 0));
        Edges.is("a sum that wraps around", x.copy(0, Integer.MAX_VALUE, 1, 0, 1), Due.BEYOND);
        Edges.is("another", x.copy(0, 1, 1, 1, Integer.MAX_VALUE), Due.BEYOND);
    }

    private static void load() {
        ReleaseTerms x = Edges.edge("Promise 43", "Numbers of a sheet, from its begin on, are PLACES where a PERSON was "
                + "seen in HOURS 0, 1, .. of a DAY (-1: not seen): how many SIGHTINGS came.");
        fill(x, 0, 8, "7001");
        x.write(0, 1, -1);
        Edges.is("three of four", x.load(0, 5, 29), 3);
        int[] where = {7, Due.NONE, 0, 1, Due.NONE};
        for (int hour = 0; hour < 5; hour++) {
            Edges.is("hour " + hour, x.where(5, 2900 + hour), where[hour]);
        }
        Edges.is("numbered as they come", x.seenOf(1, 3), 2);
        x.sheet(1, 16, 3);
        for (int i = 0; i < 3; i++) {
            x.write(1, i, -1);
        }
        Edges.is("never seen", x.load(1, 0, 0), 0);
        x.sheet(2, 32, 0);
        Edges.is("no numbers", x.load(2, 0, 0), 0);
        Edges.is("no finding by them", x.status(0), 0);
        fill(x, 0, 8, "3");
        x.load(0, 5, 29);
        Edges.is("the latest told one counts", x.where(5, 2900), 3);
    }

    private static void loadEnds() {
        ReleaseTerms x = Edges.edge("Promise 43", "It ends at the first that is no PLACE and not -1, for which there is "
                + "no HOUR, or no room.");
        int[] none = {8, -2, 127, -128};
        for (int day = 0; day < none.length; day++) {
            fill(x, 0, 8, "12345");
            x.write(0, 2, none[day]);
            Edges.is("it ends at " + none[day], x.load(0, 0, day), 2);
            Edges.is("it came to hour 1", x.where(0, 100 * day + 1), 2);
            Edges.is("not on from there", x.where(0, 100 * day + 3), Due.NONE);
        }
        x = Edges.edge("Promise 43", "It ends at the first that is no PLACE and not -1, for which there is "
                + "no HOUR, or no room.");
        x.sheet(0, 8, 24);
        Edges.is("24 hours", x.load(0, 0, 0), 24);
        x.sheet(0, 8, 40);
        Edges.is("no 25th hour", x.load(0, 0, 1), 24);
        Edges.is("nor the first of the day behind", x.where(0, 200), Due.NONE);
        x.write(0, 0, -1);
        x.write(0, 13, -1);
        Edges.is("room for 12: hours 1 to 12", x.load(0, 0, 2), 12);
        Edges.is("60 in all", x.many(0), 60);
        Edges.is("the last one", x.where(0, 212), 0);
        Edges.is("no room for hour 14", x.where(0, 214), Due.NONE);
        Edges.is("none at all", x.load(0, 0, 3), 0);
        Edges.is("and no finding", x.status(1), 0);
    }

    private static void loadFindings() {
        ReleaseTerms x = Edges.edge("Promise 43", "BEYOND: no such sheet.");
        Edges.isBeyond(x, "sheet", (o, v) -> o.load(v, 0, 0), -1, 4, Integer.MIN_VALUE, Integer.MAX_VALUE);
        x = Edges.edge("Promise 43", "MISSING.");
        Edges.is("at first", x.load(0, 0, 0), Due.MISSING);
        x.sheet(0, 8, 0);
        Edges.is("there, though it is empty", x.load(0, 0, 0), 0);
        x = Edges.edge("Promise 43", "BEYOND: person, day.");
        x.sheet(0, 8, 1);
        Edges.within(x, "person", 0, 5, (o, v) -> o.load(0, v, 0));
        Edges.within(x, "day", 0, 29, (o, v) -> o.load(0, 0, v));
        Edges.is("four came", x.many(0), 4);
    }

    private static void judge() {
        ReleaseTerms x = Edges.edge("Promise 44", "THE READER: numbers of a sheet are PLACES of a WAY: 0 if it is a "
                + "LAWFUL one of a PERSON on a DAY; else 1 and the place of the first number that isn't a PLACE");
        x.sheet(0, 8, 24);
        Edges.is("a lawful one", x.judge(0, 0, 0), 0);
        int[] none = {8, -1, 127, -128};
        for (int v : none) {
            x.write(0, 23, v);
            Edges.is(v + " in the last hour", x.judge(0, 0, 0), 24);
            x.write(0, 0, v);
            Edges.is(v + " in the first hour", x.judge(0, 0, 0), 1);
            x.write(0, 0, 0);
        }
        x = Edges.edge("Promise 44", "not that of the SIGHTING");
        x.sheet(0, 8, 24);
        x.seen(0, 1, 23);
        Edges.is("in the last hour", x.judge(0, 0, 0), 24);
        x.seen(0, 1, 0);
        Edges.is("in the first hour", x.judge(0, 0, 0), 1);
        x.seen(0, 0, 0);
        x.seen(0, 0, 23);
        Edges.is("the latest told ones are right", x.judge(0, 0, 0), 0);
        x = Edges.edge("Promise 44", "not to be reached from the one ahead");
        fill(x, 0, 8, "000000000000000000000001");
        Edges.is("the last hour", x.judge(0, 0, 0), 24);
        fill(x, 0, 8, "100000000000000000000000");
        Edges.is("the second hour", x.judge(0, 0, 0), 2);
        x.road(0, 1, true);
        Edges.is("there is a road", x.judge(0, 0, 0), 0);
        fill(x, 0, 8, "200000000000000000000000");
        x.road(1, 2, true);
        Edges.is("two roads are too far", x.judge(0, 0, 0), 2);
        x = Edges.edge("Promise 44", "or BAD by a TERM in that HOUR");
        x.sheet(0, 8, 24);
        x.term(1, 0, 0);
        Edges.is("from the first hour on", x.judge(0, 0, 0), 1);
        x.span(0, 0, 23, 23);
        Edges.is("in the last hour", x.judge(0, 0, 0), 24);
        Edges.is("of another person", x.judge(0, 1, 0), 0);
        x.span(0, 1, 1, 29);
        Edges.is("not in force", x.judge(0, 0, 0), 0);
    }

    private static void judgeLengthAndAsked() {
        ReleaseTerms x = Edges.edge("Promise 44", "25, if there are not 24 numbers, all these being right");
        int[] lengths = {0, 1, 23, 25, 40};
        for (int n : lengths) {
            x.sheet(0, 8, n);
            Edges.is(n + " numbers", x.judge(0, 0, 0), 25);
        }
        x.seen(1, 7, 0);
        x.seen(2, 7, 23);
        x.sheet(0, 8, 0);
        Edges.is("none, where one was seen", x.judge(0, 1, 0), 25);
        x.sheet(0, 8, 23);
        Edges.is("none for the hour when one was seen", x.judge(0, 2, 0), 25);
        x.write(0, 22, 9);
        Edges.is("the last of 23 is wrong", x.judge(0, 0, 0), 23);
        x.sheet(0, 8, 25);
        x.write(0, 23, 9);
        Edges.is("the 24th of 25 is wrong", x.judge(0, 0, 0), 24);
        x.write(0, 23, 0);
        x.write(0, 24, 9);
        Edges.is("the 25th of 25 is wrong", x.judge(0, 0, 0), 25);
        x.term(2, 0, 5);
        x.sheet(0, 8, 23);
        Edges.is("too few, and too seldom there", x.judge(0, 0, 0), 25);
        x = Edges.edge("Promise 44", "26 and the least TERM for which it is too seldom where it is ASKED.");
        x.sheet(0, 8, 24);
        for (int term = 0; term < 5; term++) {
            x.term(0, 1, 0);
            x.term(2, 0, term < 4 ? 0 : 5);
        }
        x.term(2, 2, 5);
        x.term(2, 2, 5);
        Edges.is("the greatest that is too seldom", x.judge(0, 0, 0), 26 + 9);
        Edges.is("the lesser of two", x.judge(0, 2, 0), 26 + 10);
        x.span(10, 1, 1, 29);
        Edges.is("the last term of all", x.judge(0, 2, 0), 26 + 11);
        x.span(11, 1, 1, 29);
        Edges.is("none in force", x.judge(0, 2, 0), 0);
    }

    private static void judgeFindings() {
        ReleaseTerms x = Edges.edge("Promise 44", "BEYOND: no such sheet.");
        Edges.isBeyond(x, "sheet", (o, v) -> o.judge(v, 0, 0), -1, 4, Integer.MIN_VALUE, Integer.MAX_VALUE);
        x = Edges.edge("Promise 44", "MISSING.");
        Edges.is("at first", x.judge(0, 0, 0), Due.MISSING);
        x.sheet(0, 8, 0);
        Edges.is("there, though it is empty", x.judge(0, 0, 0), 25);
        x = Edges.edge("Promise 44", "BEYOND: person, day.");
        x.sheet(0, 8, 24);
        Edges.within(x, "person", 0, 5, (o, v) -> o.judge(0, v, 0));
        Edges.within(x, "day", 0, 29, (o, v) -> o.judge(0, 0, v));
    }
}
