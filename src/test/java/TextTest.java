/** Promises 35 to 37: feed, wipe, text. */
public final class TextTest {
    public static void main(String[] args) {
        feed();
        wipe();
        items();
        tokens();
        faults();
        fullFaults();
        faultChangesNothing();
        Due.end("TextTest");
    }

    private static void feed() {
        ReleaseTerms x = new ReleaseTerms();
        Due.due("one byte", x.feed('b', 1), 1);
        Due.due("three bytes", x.feed('x' << 24 | 'a' << 16 | 'i' << 8 | 'l', 3), 4);
        Due.due("two bytes", x.feed(' ' << 8 | '0', 2), 6);
        Due.due("no byte", x.feed(0, 0), Due.BEYOND);
        Due.due("five bytes", x.feed(0, 5), Due.BEYOND);
        for (int wrong : Due.FAR_OUT) {
            Due.due("feed(0, " + wrong + ")", x.feed(0, wrong), Due.BEYOND);
        }
        Due.due("bytes", x.many(4), 6);
        Due.put(x, " 123");
        Due.due("the highest byte comes first", x.text(), 1);
        Due.due("bail is set", x.bail(0, 0), 123);
        Due.put(x, " ".repeat(118));
        Due.due("BEYOND is asked ahead of FULL", x.feed(0, 5), Due.BEYOND);
        Due.due("three more than 120 hold", x.feed(0, 3), Due.FULL);
        Due.due("nothing came", x.many(4), 118);
        Due.due("two more", x.feed(-1, 2), 120);
        Due.due("a 121st", x.feed(0, 1), Due.FULL);
        Due.due("bytes above 127 are no tokens", x.text(), -1 - 118);
    }

    private static void wipe() {
        ReleaseTerms x = new ReleaseTerms();
        Due.put(x, "road 0 1");
        Due.due("wipe()", x.wipe(), 8);
        Due.due("wipe() again", x.wipe(), 0);
        Due.due("nothing is there", x.text(), -1);
    }

    private static void isTerm(ReleaseTerms x, int term, int... want) {
        for (int what = 0; what < want.length; what++) {
            Due.due("termOf(" + term + ", " + what + ")", x.termOf(term, what), want[what]);
        }
    }

    private static void items() {
        ReleaseTerms x = new ReleaseTerms();
        Due.due("three items", Due.read(x, "road 0 7;road 3 4;bail 5 9999"), 3);
        Due.due("the tape is empty", x.many(4), 0);
        Due.due("road 0 7", x.roads(0), 128);
        Due.due("road 3 4", x.roads(4), 8);
        Due.due("bail 5", x.bail(5, 0), 9999);
        Due.due("a road again", Due.read(x, "road 7 0"), 1);
        Due.due("two roads", x.many(2), 2);
        Due.due("kinds", Due.read(x, "term 0 at 7; barred 1 at 6; report 2 at 5; counted 3 at 4; near 4 at 3;"
                + "weekly 5 at 2; strict 0 at 1"), 7);
        for (int kind = 0; kind < 7; kind++) {
            isTerm(x, kind, kind, kind % 6, 7 - kind, 0, 23, 0, 29);
        }
        Due.due("spans", Due.read(x, "report 1 at 0 hours 5 6 days 7 8; report 1 at 1 hours 23 23;"
                + "report 1 at 2 days 29 29; report 1 at 3 hours 0 0 days 0 0"), 4);
        isTerm(x, 7, 2, 1, 0, 5, 6, 7, 8);
        isTerm(x, 8, 2, 1, 1, 23, 23, 0, 29);
        isTerm(x, 9, 2, 1, 2, 0, 23, 29, 29);
        isTerm(x, 10, 2, 1, 3, 0, 0, 0, 0);
        x.surety(0, 100, 1);
        x.bail(0, 60);
        x.call(0);
        Due.due("bail though something is given", Due.read(x, "bail 0 5"), 1);
        Due.due("what was given stays", x.suretyOf(0, 2), 60);
        x.back(0);
        Due.due("it was set", x.bail(0, 0), 5);
        Due.due("no findings by texts", x.status(-1), 0);
        Due.due("item by item: the later one counts", Due.read(x, "bail 1 4;bail 1 6"), 2);
        Due.due("bail 1", x.bail(1, 0), 6);
        Due.due("15 items", Due.read(x, "bail0 0;".repeat(14) + "bail0 0"), 15);
    }

    private static void tokens() {
        ReleaseTerms x = new ReleaseTerms();
        Due.due("no blanks", Due.read(x, "road0 1;bail0 1;term0at0hours0 1days2 3"), 3);
        isTerm(x, 0, 0, 0, 0, 0, 1, 2, 3);
        Due.due("many blanks", Due.read(x, "   road   0   1   ;   bail  3   04   "), 2);
        Due.due("leading noughts", x.bail(3, 0), 4);
        Due.due("very many of them", Due.read(x, "bail 3 " + "0".repeat(100) + "9999"), 1);
        Due.due("their number", x.bail(3, 0), 9999);
        Due.due("a number past all ints", Due.read(x, "bail 3 " + "4294967296".repeat(11)), -1 - 7);
        Due.due("one that would wrap to 1", Due.read(x, "bail 3 4294967297"), -1 - 7);
        Due.due("10000", Due.read(x, "bail 3 10000"), -1 - 7);
        Due.due("numbers run together", Due.read(x, "road 01"), -1 - 7);
        Due.due("words run together", Due.read(x, "term 0 athours 0"), -1 - 7);
        Due.due("a word too long", Due.read(x, "roads 0 1"), -1);
        Due.due("a word too long by the last letter", Due.read(x, "roadz 0 1"), -1);
        Due.due("a word too long by the first letter", Due.read(x, "term 0 ata 0"), -1 - 7);
        Due.due("another first letter", Due.read(x, "toad 0 1"), -1);
        Due.due("another last letter", Due.read(x, "roaz 0 1"), -1);
        Due.due("a word too short", Due.read(x, "roa 0 1"), -1);
        Due.due("capitals", Due.read(x, "Road 0 1"), -1);
        Due.due("capitals later", Due.read(x, "roAd 0 1"), -1);
        Due.due("a tab", Due.read(x, "road\t0 1"), -1 - 4);
        Due.due("a line's end", Due.read(x, "road 0 1\n"), -1 - 8);
        Due.due("a minus", Due.read(x, "road 0 -1"), -1 - 7);
        Due.due("a nought byte", Due.read(x, "road 0 1\0"), -1 - 8);
        Due.due("the signs beside letters and digits", Due.read(x, "`"), -1);
        Due.due("{", Due.read(x, "{"), -1);
        Due.due("/", Due.read(x, "road /"), -1 - 5);
        Due.due(":", Due.read(x, "road :"), -1 - 5);
    }

    private static void isFault(String text, int fault) {
        Due.due("text " + text, Due.read(new ReleaseTerms(), text), -1 - fault);
    }

    private static void faults() {
        isFault("", 0);
        isFault("   ", 3);
        isFault(";", 0);
        isFault("  ;", 2);
        isFault("5", 0);
        isFault("at", 0);
        isFault("hours 0 1", 0);
        isFault("road", 4);
        isFault("road ", 5);
        isFault("road 0", 6);
        isFault("road x", 5);
        isFault("road ;", 5);
        isFault("road 8 1", 5);
        isFault("road 1 8", 7);
        isFault("road 1 1", 7);
        isFault("road 1 01", 7);
        isFault("road 1 ; 2", 7);
        isFault("road 1 2 3", 9);
        isFault("road 1 2 road 3 4", 9);
        isFault("road 1 2;", 9);
        isFault("road 1 2; ", 10);
        isFault("road 1 2;;", 9);
        isFault("road 1 2;3", 9);
        isFault("bail 6 0", 5);
        isFault("bail 0", 6);
        isFault("bail 0 x", 7);
        isFault("bail 0 1 at", 9);
        isFault("term", 4);
        isFault("term at", 5);
        isFault("term 6 at 0", 5);
        isFault("term 0", 6);
        isFault("term 0 0", 7);
        isFault("term 0 hours 0 1", 7);
        isFault("term 0 at", 9);
        isFault("term 0 at 8", 10);
        isFault("term 0 at 0 at", 12);
        isFault("term 0 at 0 1", 12);
        isFault("term 0 at 0 hours", 17);
        isFault("term 0 at 0 hours 24 24", 18);
        isFault("term 0 at 0 hours 5", 19);
        isFault("term 0 at 0 hours 5 4", 20);
        isFault("term 0 at 0 hours 5 24", 20);
        isFault("term 0 at 0 hours 5 days", 20);
        isFault("term 0 at 0 hours 5 6 hours 5 6", 22);
        isFault("term 0 at 0 days 30 30", 17);
        isFault("term 0 at 0 days 5 4", 19);
        isFault("term 0 at 0 days 5 30", 19);
        isFault("term 0 at 0 days 5 6 hours 5 6", 21);
        isFault("term 0 at 0 days 5 6 days 5 6", 21);
        isFault("term 0 at 0 days 5 6 7", 21);
        isFault("term 0 at 0 road 0 1", 12);
    }

    private static void fullFaults() {
        ReleaseTerms x = new ReleaseTerms();
        String five = "term0at0;term0at0;term0at0;term0at0;term0at0";
        Due.due("a sixth of one person in one text", Due.read(x, five + ";term0at0"), -1 - 49);
        Due.due("nothing is so", x.many(1), 0);
        Due.due("five", Due.read(x, five), 5);
        Due.due("a sixth in another text", Due.read(x, "bail 0 1; near 0 at 0"), -1 - 15);
        Due.due("the number ahead of what follows", Due.read(x, "near 0 9"), -1 - 5);
        Due.due("another person", Due.read(x, five.replace("m0", "m1")), 5);
        Due.due("one more", Due.read(x, "term2at0"), 1);
        Due.due("the 13th word", Due.read(x, "term2at0; term2at0"), -1 - 10);
        Due.due("eleven stay", x.many(1), 11);
        Due.due("the 12th", Due.read(x, "term2at0"), 1);
        Due.due("the 13th word is asked ahead of the person", Due.read(x, " term 9"), -1 - 1);
        Due.due("another 13th word", Due.read(x, "strict"), -1);
        Due.due("roads still come", Due.read(x, "road 0 1"), 1);
    }

    private static void faultChangesNothing() {
        ReleaseTerms x = new ReleaseTerms();
        Due.due("a fault in the last item", Due.read(x, "road 0 1; bail 0 5; term 0 at 0; road 2 2"), -1 - 40);
        Due.due("no road", x.many(2), 0);
        Due.due("no term", x.many(1), 0);
        Due.due("no bail", x.bail(0, 0), 0);
        Due.due("the tape is empty", x.many(4), 0);
        Due.due("no finding", x.status(-1), 0);
        Due.due("the next text is read anew", Due.read(x, "road 0 1"), 1);
    }
}
