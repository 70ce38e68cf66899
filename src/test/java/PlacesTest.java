/** Promises 1 to 4: a new object, road, roads, far. */
public final class PlacesTest {
    public static void main(String[] args) {
        newObject();
        road();
        roads();
        far();
        Due.end("PlacesTest");
    }

    private static void newObject() {
        ReleaseTerms x = new ReleaseTerms();
        int[] first = {0, 0, 0, 0, 0, 1, 0};
        for (int what = 0; what < first.length; what++) {
            Due.due("new: many(" + what + ")", x.many(what), first[what]);
        }
        for (int which = -1; which <= 6; which++) {
            Due.due("new: status(" + which + ")", x.status(which), 0);
        }
        for (int place = 0; place < 8; place++) {
            Due.due("new: roads(" + place + ")", x.roads(place), 0);
        }
        for (int person = 0; person < 6; person++) {
            Due.due("new: heard(" + person + ")", x.heard(person), Due.NONE);
            Due.due("new: inForce(" + person + ", 0)", x.inForce(person, 0), 0);
            Due.due("new: bail(" + person + ", 0)", x.bail(person, 0), 0);
        }
        for (int surety = 0; surety < 5; surety++) {
            for (int what = 0; what < 8; what++) {
                Due.due("new: suretyOf(" + surety + ", " + what + ")", x.suretyOf(surety, what), 0);
            }
        }
        for (int spot = 0; spot < 10; spot++) {
            Due.due("new: as(" + spot + ", 0)", x.as(spot, 0), Due.MISSING);
        }
        for (int s = 0; s < 4; s++) {
            Due.due("new: write(" + s + ", 0, 0)", x.write(s, 0, 0), Due.MISSING);
        }
        Due.due("new: at(0)", x.at(0), Due.NONE);
        Due.due("new: undo()", x.undo(), Due.NONE);
        Due.due("new: tear()", x.tear(), 0);
        Due.due("new: wipe()", x.wipe(), 0);
        Due.due("new: termOf(0, 0)", x.termOf(0, 0), Due.BEYOND);
        Due.due("new: seenOf(0, 0)", x.seenOf(0, 0), Due.BEYOND);
    }

    private static void road() {
        ReleaseTerms x = new ReleaseTerms();
        Due.due("road(2, 5, true)", x.road(2, 5, true), 0);
        Due.due("road(2, 5, true) again", x.road(2, 5, true), 1);
        Due.due("road goes both ways", x.road(5, 2, true), 1);
        Due.due("one road", x.many(2), 1);
        Due.due("road(5, 2, false)", x.road(5, 2, false), 1);
        Due.due("road(2, 5, false)", x.road(2, 5, false), 0);
        Due.due("no road", x.many(2), 0);
        Due.due("road(0, 7, true)", x.road(0, 7, true), 0);
        Due.due("road(3, 3, true)", x.road(3, 3, true), Due.BEYOND);
        Due.due("road(0, 8, true)", x.road(0, 8, true), Due.BEYOND);
        for (int wrong : Due.FAR_OUT) {
            Due.due("road(" + wrong + ", 0)", x.road(wrong, 0, true), Due.BEYOND);
            Due.due("road(0, " + wrong + ")", x.road(0, wrong, false), Due.BEYOND);
        }
        Due.due("road stays", x.roads(0), 128);
        Due.due("all findings counted", x.status(0), 2 + 2 * Due.FAR_OUT.length);
    }

    private static void roads() {
        ReleaseTerms x = new ReleaseTerms();
        x.road(0, 1, true);
        x.road(7, 0, true);
        Due.due("roads(0)", x.roads(0), 130);
        Due.due("roads(1)", x.roads(1), 1);
        Due.due("roads(7)", x.roads(7), 1);
        Due.due("roads(2)", x.roads(2), 0);
        x.road(0, 1, false);
        Due.due("roads(0) with one less", x.roads(0), 128);
        Due.due("roads(8)", x.roads(8), Due.BEYOND);
        for (int wrong : Due.FAR_OUT) {
            Due.due("roads(" + wrong + ")", x.roads(wrong), Due.BEYOND);
        }
        for (int one = 0; one < 8; one++) {
            for (int other = one + 1; other < 8; other++) {
                x.road(one, other, true);
            }
        }
        Due.due("all roads", x.many(2), 28);
        Due.due("roads(4) of all", x.roads(4), 255 - 16);
    }

    private static void far() {
        ReleaseTerms x = new ReleaseTerms();
        Due.line(x, 0, 7);
        Due.due("far(0, 7)", x.far(0, 7), 7);
        Due.due("far(7, 0)", x.far(7, 0), 7);
        Due.due("far(2, 2)", x.far(2, 2), 0);
        x.road(1, 6, true);
        Due.due("far by the shorter way", x.far(0, 7), 3);
        x.road(6, 7, false);
        Due.due("far to a place apart", x.far(0, 7), Due.NONE);
        Due.due("far from a place apart to itself", x.far(7, 7), 0);
        Due.due("far(8, 0)", x.far(8, 0), Due.BEYOND);
        Due.due("far(0, 8)", x.far(0, 8), Due.BEYOND);
        for (int wrong : Due.FAR_OUT) {
            Due.due("far(" + wrong + ", 0)", x.far(wrong, 0), Due.BEYOND);
            Due.due("far(0, " + wrong + ")", x.far(0, wrong), Due.BEYOND);
        }
    }
}
