/** Promises 5 to 9: seen, seenOf, where, could, drift. */
public final class SightingsTest {
    public static void main(String[] args) {
        seen();
        seenOf();
        where();
        could();
        drift();
        Due.end("SightingsTest");
    }

    private static void seen() {
        ReleaseTerms x = new ReleaseTerms();
        Due.due("seen(5, 7, 2923)", x.seen(5, 7, 2923), 0);
        Due.due("seen(0, 0, 0)", x.seen(0, 0, 0), 1);
        for (int when : new int[] {24, 99, 124, 2924, 3000, -1, -100, Integer.MIN_VALUE, Integer.MAX_VALUE}) {
            Due.due("seen(0, 0, " + when + ")", x.seen(0, 0, when), Due.BEYOND);
        }
        Due.due("seen(6, 0, 0)", x.seen(6, 0, 0), Due.BEYOND);
        Due.due("seen(0, 8, 0)", x.seen(0, 8, 0), Due.BEYOND);
        for (int wrong : Due.FAR_OUT) {
            Due.due("seen(" + wrong + ", 0, 0)", x.seen(wrong, 0, 0), Due.BEYOND);
            Due.due("seen(0, " + wrong + ", 0)", x.seen(0, wrong, 0), Due.BEYOND);
        }
        for (int i = 2; i < 60; i++) {
            Due.due("seen number " + i, x.seen(1, i % 8, 500), i);
        }
        Due.due("a 61st", x.seen(1, 0, 501), Due.FULL);
        Due.due("BEYOND is asked ahead of FULL", x.seen(1, 8, 501), Due.BEYOND);
        Due.due("60 stay", x.many(0), 60);
        Due.due("the 61st is not there", x.where(1, 501), Due.NONE);
        Due.due("the latest of one hour", x.where(1, 500), 59 % 8);
    }

    private static void seenOf() {
        ReleaseTerms x = new ReleaseTerms();
        x.seen(4, 6, 1723);
        x.seen(4, 3, 1723);
        x.seen(4, 3, 1722);
        x.seen(3, 3, 1723);
        x.seen(4, 3, 1623);
        int[] first = {4, 6, 17, 23, 0};
        for (int what = 0; what < 5; what++) {
            Due.due("seenOf(0, " + what + ")", x.seenOf(0, what), first[what]);
        }
        for (int s = 1; s < 5; s++) {
            Due.due("seenOf(" + s + ", 4)", x.seenOf(s, 4), 1);
        }
        x.seen(4, 3, 1723);
        Due.due("a later one at the same place counts", x.seenOf(1, 4), 0);
        Due.due("seenOf(5, 4)", x.seenOf(5, 4), 1);
        Due.due("seenOf(6, 0)", x.seenOf(6, 0), Due.BEYOND);
        Due.due("seenOf(0, 5)", x.seenOf(0, 5), Due.BEYOND);
        for (int wrong : Due.FAR_OUT) {
            Due.due("seenOf(" + wrong + ", 0)", x.seenOf(wrong, 0), Due.BEYOND);
            Due.due("seenOf(0, " + wrong + ")", x.seenOf(0, wrong), Due.BEYOND);
        }
    }

    private static void where() {
        ReleaseTerms x = new ReleaseTerms();
        x.seen(2, 7, 1205);
        Due.due("where(2, 1205)", x.where(2, 1205), 7);
        Due.due("another hour", x.where(2, 1206), Due.NONE);
        Due.due("another day", x.where(2, 1305), Due.NONE);
        Due.due("another person", x.where(1, 1205), Due.NONE);
        x.seen(2, 0, 1205);
        Due.due("told later", x.where(2, 1205), 0);
        Due.due("where(6, 0)", x.where(6, 0), Due.BEYOND);
        Due.due("where(0, 24)", x.where(0, 24), Due.BEYOND);
        Due.due("where(0, 3000)", x.where(0, 3000), Due.BEYOND);
        for (int wrong : Due.FAR_OUT) {
            Due.due("where(" + wrong + ", 0)", x.where(wrong, 0), Due.BEYOND);
        }
        Due.due("where(0, -1)", x.where(0, -1), Due.BEYOND);
        Due.due("where at the greatest int", x.where(0, Integer.MAX_VALUE), Due.BEYOND);
    }

    private static void could() {
        ReleaseTerms x = new ReleaseTerms();
        Due.line(x, 0, 7);
        Due.due("nobody saw them", x.could(0, 0), 255);
        x.seen(0, 0, 310);
        Due.due("in that hour", x.could(0, 310), 1);
        Due.due("an hour on", x.could(0, 311), 3);
        Due.due("an hour ahead", x.could(0, 309), 3);
        Due.due("seven hours on", x.could(0, 317), 255);
        Due.due("six hours on", x.could(0, 316), 127);
        x.seen(0, 4, 314);
        Due.due("between two sightings with no hour to spare", x.could(0, 312), 4);
        x.seen(0, 3, 314);
        Due.due("between two sightings with one", x.could(0, 312), 6);
        Due.due("the day ahead is free", x.could(0, 223), 255);
        Due.due("the day behind is free", x.could(0, 400), 255);
        Due.due("another person is free", x.could(1, 310), 255);
        x.term(1, 0, 1);
        Due.due("terms do not bind what could be", x.could(0, 311), 3);
        x.seen(0, 7, 315);
        Due.due("no way at all", x.could(0, 300), 0);
        Due.due("could(6, 0)", x.could(6, 0), Due.BEYOND);
        Due.due("could(0, 24)", x.could(0, 24), Due.BEYOND);
        for (int wrong : Due.FAR_OUT) {
            Due.due("could(" + wrong + ", 0)", x.could(wrong, 0), Due.BEYOND);
        }
        Due.due("could(0, -1)", x.could(0, -1), Due.BEYOND);
        Due.due("could at the greatest int", x.could(0, Integer.MAX_VALUE), Due.BEYOND);
    }

    private static void drift() {
        ReleaseTerms x = new ReleaseTerms();
        int z = 1;
        Due.due("drift(3, 8, 20)", x.drift(3, 8, 20), 20);
        for (int s = 0; s < 20; s++) {
            z = z * 1103515245 + 12345;
            Due.due("place of draw " + s, x.seenOf(s, 1), (z >>> 8) % 8);
            z = z * 1103515245 + 12345;
            Due.due("hour of draw " + s, x.seenOf(s, 3), (z >>> 8) % 24);
            Due.due("person of draw " + s, x.seenOf(s, 0), 3);
            Due.due("day of draw " + s, x.seenOf(s, 2), 8);
        }
        Due.due("z behind the draws", x.many(5), z);
        Due.due("drift(0, 0, 0)", x.drift(0, 0, 0), Due.BEYOND);
        Due.due("drift(0, 0, 21)", x.drift(0, 0, 21), Due.BEYOND);
        Due.due("drift(6, 0, 1)", x.drift(6, 0, 1), Due.BEYOND);
        Due.due("drift(0, 30, 1)", x.drift(0, 30, 1), Due.BEYOND);
        for (int wrong : Due.FAR_OUT) {
            Due.due("drift(" + wrong + ", 0, 1)", x.drift(wrong, 0, 1), Due.BEYOND);
            Due.due("drift(0, " + wrong + ", 1)", x.drift(0, wrong, 1), Due.BEYOND);
            Due.due("drift(0, 0, " + wrong + ")", x.drift(0, 0, wrong), Due.BEYOND);
        }
        Due.due("no draw by a finding", x.many(5), z);
        x.drift(3, 8, 20);
        x.drift(3, 8, 18);
        Due.due("it ends at 60", x.drift(3, 8, 20), 60);
        for (int i = 0; i < 80; i++) {
            z = z * 1103515245 + 12345;
        }
        Due.due("no draw beyond the 60th", x.many(5), z);
        Due.due("it ends at once, with no finding", x.drift(3, 8, 1), 60);
        Due.due("and no draw", x.many(5), z);
        Due.due("drift is never FULL", x.status(1), 0);
    }
}
