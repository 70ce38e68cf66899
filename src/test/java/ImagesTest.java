/** Promises 45 to 49: image, undo, tear, many, status. */
public final class ImagesTest {
    public static void main(String[] args) {
        undo();
        keeps();
        keepsNot();
        tear();
        many();
        status();
        statusOfAll();
        Due.end("ImagesTest");
    }

    private static void undo() {
        ReleaseTerms x = new ReleaseTerms();
        Due.due("nothing kept", x.undo(), Due.NONE);
        x.term(0, 0, 0);
        Due.due("image()", x.image(), 1);
        x.term(1, 0, 0);
        x.term(2, 0, 0);
        Due.due("undo()", x.undo(), 1);
        Due.due("one term", x.many(1), 1);
        x.term(3, 1, 4);
        Due.due("it stays kept", x.undo(), 1);
        x.turn(0, 5);
        Due.due("its own change is taken back", x.undo(), 1);
        Due.due("kind 0", x.termOf(0, 0), 0);
        x.term(3, 1, 4);
        Due.due("the latest counts", x.image(), 1);
        x.term(3, 1, 4);
        Due.due("two terms", x.undo(), 2);
        x.road(0, 1, true);
        Due.due("and all is one image", x.undo(), 2);
        Due.due("no road", x.many(2), 0);
    }

    /** Everything that an image keeps, changed behind it and taken back. */
    private static void keeps() {
        ReleaseTerms x = new ReleaseTerms();
        first(x);
        x.image();
        x.road(0, 1, false);
        x.road(2, 3, true);
        x.seen(0, 2, 5);
        x.drift(1, 1, 3);
        x.turn(0, 4);
        x.span(0, 0, 3, 4);
        x.span(0, 1, 3, 4);
        x.change(1, 9, 4);
        x.back(0);
        x.surety(0, 1, 2);
        x.bail(0, 3);
        x.hearing(0, 9);
        x.hearing(1, 9);
        x.seed(99);
        x.hold(0, 1);
        x.hold(1, 0);
        Due.due("undo()", x.undo(), 2);
        isFirst(x);
    }

    private static void first(ReleaseTerms x) {
        x.road(0, 1, true);
        x.seen(0, 1, 5);
        x.term(2, 0, 1);
        x.term(1, 3, 2);
        x.surety(0, 100, 1);
        x.bail(0, 30);
        x.call(0);
        x.hearing(0, 8);
        x.seed(77);
        x.hold(0, 0);
    }

    private static void isFirst(ReleaseTerms x) {
        Due.due("roads(0)", x.roads(0), 2);
        Due.due("roads(2)", x.roads(2), 0);
        Due.due("sightings", x.many(0), 1);
        Due.due("where", x.where(0, 5), 1);
        int[] term = {2, 0, 1, 0, 23, 0, 29, 1};
        for (int what = 0; what < 8; what++) {
            Due.due("termOf(0, " + what + ")", x.termOf(0, what), term[what]);
        }
        Due.due("last day", x.termOf(1, 6), 29);
        Due.due("term 2", x.termOf(2, 0), Due.BEYOND);
        Due.due("room", x.suretyOf(0, 0), 70);
        Due.due("backed", x.suretyOf(0, 1), 1);
        Due.due("given", x.suretyOf(0, 2), 30);
        x.back(0);
        Due.due("bail", x.bail(0, 30), 30);
        Due.due("heard(0)", x.heard(0), 8);
        Due.due("heard(1)", x.heard(1), Due.NONE);
        Due.due("z", x.many(5), 77);
        Due.due("spot 0", x.as(0, 0), 0);
        Due.due("spot 1", x.as(1, 0), Due.MISSING);
    }

    private static void keepsNot() {
        ReleaseTerms x = new ReleaseTerms();
        x.image();
        x.feed(' ', 1);
        x.sheet(0, 8, 3);
        x.write(0, 0, 6);
        x.seen(0, 5, 0);
        x.way(0, 0);
        x.heard(9);
        x.undo();
        Due.due("the tape stays", x.many(4), 1);
        Due.due("the way told stays", x.at(0), 5);
        Due.due("the sheet stays", x.load(0, 0, 0), 3);
        Due.due("so do its numbers", x.where(0, 0), 6);
        Due.due("findings stay", x.status(-1), 1);
    }

    private static void tear() {
        ReleaseTerms x = new ReleaseTerms();
        Due.due("nothing kept", x.tear(), 0);
        x.image();
        x.image();
        Due.due("something kept", x.tear(), 1);
        Due.due("no more", x.tear(), 0);
        Due.due("nothing to undo", x.undo(), Due.NONE);
        x.image();
        x.undo();
        Due.due("undo() leaves it", x.tear(), 1);
    }

    private static void many() {
        ReleaseTerms x = new ReleaseTerms();
        x.seen(0, 0, 0);
        x.seen(0, 0, 0);
        x.term(0, 0, 0);
        x.road(0, 1, true);
        x.road(1, 2, true);
        x.road(2, 0, true);
        x.hearing(3, 3);
        x.feed(0, 4);
        x.seed(-1000004);
        x.surety(1, 50, 1);
        x.surety(4, 25, 0);
        x.bail(0, 10);
        x.call(0);
        int[] want = {2, 1, 3, 1, 4, -1000004, 65};
        for (int what = 0; what < 7; what++) {
            Due.due("many(" + what + ")", x.many(what), want[what]);
        }
        Due.due("no finding", x.status(-1), 0);
        Due.due("many(7)", x.many(7), Due.BEYOND);
        for (int wrong : Due.FAR_OUT) {
            Due.due("many(" + wrong + ")", x.many(wrong), Due.BEYOND);
        }
    }

    private static void status() {
        ReleaseTerms x = new ReleaseTerms();
        x.roads(8);
        x.term(2, 0, 0);
        x.hold(0, 0);
        for (int i = 0; i < 5; i++) {
            x.term(2, 1, 0);
        }
        x.term(2, 1, 0);
        x.as(0, 1);
        x.as(0, 3);
        x.undo();
        x.change(0, 29, 9);
        x.span(0, 1, 3, 3);
        x.change(0, 29, 1);
        x.as(1, 0);
        x.sheet(0, 0, -1);
        int[] want = {2, 1, 2, 1, 1, 1, 1};
        for (int which = 0; which < 7; which++) {
            Due.due("status(" + which + ")", x.status(which), want[which]);
        }
        Due.due("status(-1)", x.status(-1), 9);
        Due.due("status(7)", x.status(7), Due.BEYOND);
        Due.due("counted from then on", x.status(0), 3);
        Due.due("status(-2)", x.status(-2), Due.BEYOND);
        Due.due("all", x.status(-1), 11);
        Due.due("the least int", x.status(Integer.MIN_VALUE), Due.BEYOND);
        Due.due("the greatest int", x.status(Integer.MAX_VALUE), Due.BEYOND);
        x.image();
        x.far(0, 1);
        x.undo();
        Due.due("undo() takes none back", x.status(3), 2);
    }

    private static void statusOfAll() {
        ReleaseTerms x = new ReleaseTerms();
        for (int i = 0; i < 400; i++) {
            x.heard(0);
        }
        Due.due("400 findings", x.status(3), 400);
        Due.due("400 in all", x.status(-1), 400);
    }
}
