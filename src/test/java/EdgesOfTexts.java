/** Promises 35 to 37: texts. */
final class EdgesOfTexts {
    private EdgesOfTexts() {
    }

    static void run() {
        feed();
        feedFindings();
        wipe();
        text();
        textWithGiven();
        textWithFault();
    }

    private static void feed() {
        ReleaseTerms x = Edges.edge("Promise 35", "THE TAPE gets the n lowest bytes of a number behind it, "
                + "the highest of these first (n 1 to 4): how many it has.");
        Edges.is("four", x.feed('b' << 24 | 'a' << 16 | 'i' << 8 | 'l', 4), 4);
        Edges.is("one, of a number with more", x.feed(0x01020300 | '2', 1), 5);
        Edges.is("two", x.feed(0x7f7f0000 | ' ' << 8 | '4', 2), 7);
        Edges.is("three, of a number below 0", x.feed(0xff000000 | '5' << 16 | '6' << 8 | '7', 3), 10);
        Edges.is("they are bail 2 4567 without a blank", x.text(), 1);
        Edges.is("so it is", x.bail(2, 0), 4567);
        x = Edges.edge("Promise 35", "THE TAPE gets the n lowest bytes of a number behind it");
        x.feed('r' << 24 | 'o' << 16 | 'a' << 8 | 'd', 4);
        x.feed(0xff, 1);
        Edges.is("a byte above 127 has no sign", x.text(), -1 - 4);
    }

    private static void feedFindings() {
        ReleaseTerms x = Edges.edge("Promise 35", "BEYOND: n.");
        Edges.within(x, "n", 1, 4, (o, v) -> o.feed(0, v));
        Edges.is("five bytes came", x.many(4), 5);
        x = Edges.edge("Promise 35", "FULL.");
        for (int i = 0; i < 29; i++) {
            x.feed(0, 4);
        }
        x.feed(0, 1);
        Edges.is("four to 117", x.feed(0, 4), Due.FULL);
        Edges.is("none of them came", x.many(4), 117);
        Edges.is("three to 117", x.feed(0, 3), 120);
        for (int n = 1; n <= 4; n++) {
            Edges.is("n " + n + " to 120", x.feed(0, n), Due.FULL);
        }
        Edges.is("wiped", x.wipe(), 120);
        Edges.is("there is room again", x.feed(0, 4), 4);
    }

    private static void wipe() {
        ReleaseTerms x = Edges.edge("Promise 36", "THE TAPE is empty: how many it had.");
        Edges.is("an empty one", x.wipe(), 0);
        x.feed(0, 3);
        Edges.is("three", x.wipe(), 3);
        Edges.is("none any more", x.many(4), 0);
        Edges.is("nothing is there to read", x.text(), -1);
    }

    private static void text() {
        ReleaseTerms x = Edges.edge("Promise 37", "THE TAPE is a TEXT, and empty then; all that it tells is so, "
                + "item by item");
        Edges.is("how many items", Due.read(x, "road 0 1;bail 0 7;bail 0 8;near 0 at 3;weekly 1 at 4"), 5);
        Edges.is("empty then", x.many(4), 0);
        Edges.is("the later item counts", x.bail(0, 0), 8);
        Edges.is("the terms in their order", x.termOf(0, 0) * 10 + x.termOf(1, 0), 45);
        Edges.is("the road", x.roads(1), 1);
        Edges.is("and no other", x.roads(0), 2);
        Edges.is("nothing is read twice", x.text(), -1);
        x.bail(0, 0);
        Edges.is("a shorter text", Due.read(x, "road 0 1"), 1);
        Edges.is("tells nothing of the longer one", x.bail(0, 0), 0);
        Edges.is("nor its terms", x.many(1), 2);
        x = Edges.edge("Promise 37", "how many ITEMS.");
        Edges.is("one", Due.read(x, "bail 0 0"), 1);
        Edges.is("as many as can be", Due.read(x, "bail0 1" + ";bail0 1".repeat(14)), 15);
    }

    private static void textWithGiven() {
        ReleaseTerms x = Edges.edge("Promise 37", "(BAIL also, if something is GIVEN)");
        x.surety(0, 100, 1);
        x.bail(0, 60);
        x.call(0);
        Edges.is("bail() may not", x.bail(0, 5), Due.STATE);
        Edges.is("a text may", Due.read(x, "bail 0 5"), 1);
        Edges.is("what was given stays", x.suretyOf(0, 2), 60);
        Edges.is("and comes back whole", x.back(0), 60);
        Edges.is("the bail that was told is called", x.call(0), 0);
        Edges.is("which is less", x.suretyOf(0, 2), 5);
    }

    private static void textWithFault() {
        ReleaseTerms x = Edges.edge("Promise 37", "With a FAULT: -1 less the FAULT (nothing changes but that THE TAPE "
                + "is empty; no finding).");
        Edges.is("at place 0 of nothing", x.text(), -1);
        Edges.is("behind items that were right", Due.read(x, "road 0 1;bail 0 7;near 0 at 3;road 0 0"), -1 - 37);
        Edges.is("no road", x.many(2), 0);
        Edges.is("no term", x.many(1), 0);
        Edges.is("no bail", x.bail(0, 0), 0);
        Edges.is("the tape is empty", x.many(4), 0);
        Edges.is("no finding", x.status(-1), 0);
        Edges.is("at the last place that can be", Due.read(x, " ".repeat(119) + ";"), -1 - 119);
        Edges.is("behind it", Due.read(x, " ".repeat(120)), -1 - 120);
        Edges.is("no finding still", x.status(-1), 0);
    }
}
