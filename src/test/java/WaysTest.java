/** Promises 20 to 24: way, at, may, ways, bars. */
public final class WaysTest {
    public static void main(String[] args) {
        way();
        wayFirstOfEqual();
        wayWithFiveAsking();
        at();
        may();
        ways();
        waysMost();
        bars();
        Due.end("WaysTest");
    }

    private static void tells(ReleaseTerms x, String what, String places) {
        for (int hour = 0; hour < 24; hour++) {
            Due.due(what + ", at(" + hour + ")", x.at(hour), places.charAt(hour) - '0');
        }
    }

    private static void way() {
        ReleaseTerms x = new ReleaseTerms();
        Due.line(x, 0, 7);
        Due.due("a free person stays", x.way(0, 0), 0);
        tells(x, "a free person", "000000000000000000000000");
        x.term(2, 0, 3);
        x.span(0, 0, 9, 10);
        Due.due("one reports without a move", x.way(0, 0), 0);
        tells(x, "one who reports", "333333333333333333333333");
        x.seen(0, 1, 2);
        Due.due("one goes to report as late as can be", x.way(0, 0), 2);
        tells(x, "one who goes", "111111111233333333333333");
        x.term(1, 0, 3);
        x.span(1, 0, 12, 23);
        Due.due("and must be gone again", x.way(0, 0), 3);
        tells(x, "one who is gone again", "111111111232222222222222");
        x.term(0, 0, 7);
        x.span(2, 0, 11, 11);
        Due.due("there is none", x.way(0, 0), Due.NONE);
        tells(x, "what is told stays", "111111111232222222222222");
        Due.due("another day is free of the sighting only", x.way(0, 1), Due.NONE);
        Due.due("another person is free", x.way(1, 0), 0);
        tells(x, "another person", "000000000000000000000000");
        x.seen(2, 0, 0);
        x.seen(2, 2, 1);
        Due.due("there is no way at all", x.way(2, 0), Due.NONE);
        Due.due("way(6, 0)", x.way(6, 0), Due.BEYOND);
        Due.due("way(0, 30)", x.way(0, 30), Due.BEYOND);
        for (int wrong : Due.FAR_OUT) {
            Due.due("way(" + wrong + ", 0)", x.way(wrong, 0), Due.BEYOND);
            Due.due("way(0, " + wrong + ")", x.way(0, wrong), Due.BEYOND);
        }
    }

    /** Of ways with as few moves the lesser place counts, hour by hour. */
    private static void wayFirstOfEqual() {
        ReleaseTerms x = new ReleaseTerms();
        x.road(2, 5, true);
        x.road(5, 3, true);
        x.road(2, 4, true);
        x.road(4, 3, true);
        x.seen(0, 3, 0);
        x.seen(0, 2, 3);
        Due.due("two ways as short", x.way(0, 0), 2);
        tells(x, "the lesser ones", "334222222222222222222222");
        x.seen(0, 5, 1);
        Due.due("by the other one", x.way(0, 0), 2);
        tells(x, "the other one", "352222222222222222222222");
        x.seen(1, 4, 23);
        Due.due("no move is fewer than a lesser place", x.way(1, 0), 0);
        tells(x, "without a move", "444444444444444444444444");
        x.seen(1, 3, 10);
        Due.due("it leaves the lesser place as late as it can", x.way(1, 0), 1);
        tells(x, "late", "333333333333333333333334");
        x.seen(1, 5, 0);
        Due.due("it comes to the lesser place as soon as it can", x.way(1, 0), 2);
        tells(x, "soon", "533333333333333333333334");
    }

    /** Five terms that ask for three hours each: 15 hours at five places. */
    private static void wayWithFiveAsking() {
        ReleaseTerms x = new ReleaseTerms();
        Due.line(x, 0, 7);
        for (int place = 0; place < 5; place++) {
            x.term(6, 0, place);
        }
        Due.due("five places", x.way(0, 0), 4);
        tells(x, "five places", "000000000000111222333444");
        Due.due("all places may be asked for at 12", x.may(0, 12), 255);
        x.seen(0, 7, 12);
        Due.due("by 7 and back to 2", x.way(0, 0), 12);
        tells(x, "by 7 and back to 2", "000011123456765443322222");
        x.seen(0, 7, 5);
        Due.due("too long at 7", x.way(0, 0), Due.NONE);
        Due.due("without 0 it would do", x.bars(0, 0), 0);
        x.seen(0, 7, 123);
        Due.due("on the way to 7 there is a short one", x.way(0, 1), 7);
        tells(x, "to 7", "000000000111222333444567");
        Due.due("three hours ahead of 7", x.may(0, 120), 128 + 64 + 32 + 16);
        Due.due("many ways to 7", x.ways(0, 1), 1000000);
        String seen = "000111222333444444444444";
        for (int hour = 0; hour < 24; hour++) {
            if (hour != 19) {
                x.seen(0, seen.charAt(hour) - '0', 200 + hour);
            }
        }
        Due.due("one hour is free", x.ways(0, 2), 3);
        x.seen(0, 1, 200);
        Due.due("one too seldom at 0", x.ways(0, 2), 0);
        Due.due("which bars it", x.bars(0, 2), 0);
    }

    private static void at() {
        ReleaseTerms x = new ReleaseTerms();
        Due.due("none was told", x.at(0), Due.NONE);
        Due.due("BEYOND is asked ahead of NONE", x.at(24), Due.BEYOND);
        x.seen(0, 6, 0);
        x.way(0, 0);
        Due.due("at(0)", x.at(0), 6);
        Due.due("at(23)", x.at(23), 6);
        Due.due("at(24)", x.at(24), Due.BEYOND);
        for (int wrong : Due.FAR_OUT) {
            Due.due("at(" + wrong + ")", x.at(wrong), Due.BEYOND);
        }
        x.seen(0, 5, 1);
        Due.due("what was told is not asked anew", x.at(1), 6);
    }

    private static void may() {
        ReleaseTerms x = new ReleaseTerms();
        Due.line(x, 0, 7);
        Due.due("a free person", x.may(0, 2923), 255);
        x.term(2, 0, 0);
        x.span(0, 0, 12, 12);
        Due.due("two hours ahead of a report", x.may(0, 10), 7);
        Due.due("at the report", x.may(0, 12), 1);
        Due.due("three hours behind a report", x.may(0, 15), 15);
        x.term(4, 0, 4);
        Due.due("and not near a place", x.may(0, 23), 7);
        x.seen(0, 2, 11);
        Due.due("seen too far away", x.may(0, 5), 0);
        x.span(0, 1, 1, 29);
        Due.due("when nothing is asked", x.may(0, 5), 7);
        Due.due("another day", x.may(0, 112), 1);
        Due.due("may(6, 0)", x.may(6, 0), Due.BEYOND);
        Due.due("may(0, 24)", x.may(0, 24), Due.BEYOND);
        Due.due("may(0, 3000)", x.may(0, 3000), Due.BEYOND);
        Due.due("may(0, -1)", x.may(0, -1), Due.BEYOND);
        for (int wrong : Due.FAR_OUT) {
            Due.due("may(" + wrong + ", 0)", x.may(wrong, 0), Due.BEYOND);
        }
        Due.due("may at the greatest int", x.may(0, Integer.MAX_VALUE), Due.BEYOND);
    }

    private static void ways() {
        ReleaseTerms x = new ReleaseTerms();
        Due.due("without roads", x.ways(0, 0), 8);
        x.term(1, 0, 3);
        Due.due("without one place", x.ways(0, 0), 7);
        x.road(0, 1, true);
        x.seen(0, 0, 0);
        x.seen(0, 0, 13);
        x.seen(0, 0, 23);
        Due.due("12 and 9 hours between", x.ways(0, 0), 1000000);
        x.term(2, 0, 1);
        Due.due("all but the one that never leaves", x.ways(0, 0), 1000000);
        x.seen(0, 0, 8);
        x.seen(0, 0, 18);
        x.seen(0, 0, 4);
        Due.due("3, 3, 4, 4 and 4 hours between, less one", x.ways(0, 0), (1 << 18) - 1);
        x.turn(1, 3);
        Due.due("less those with one", x.ways(0, 0), (1 << 18) - 1 - 18);
        x.turn(1, 6);
        Due.due("less those with two", x.ways(0, 0), (1 << 18) - 1 - 18 - 153);
        x.seen(0, 2, 3);
        Due.due("no way", x.ways(0, 0), 0);
        x.term(2, 1, 1);
        x.span(2, 0, 0, 0);
        x.seen(1, 0, 2);
        x.seen(1, 0, 23);
        for (int hour = 5; hour < 23; hour++) {
            x.seen(1, hour % 2, hour);
        }
        Due.due("a report in the first hour, and three free ones", x.ways(1, 0), 8);
        x.span(2, 0, 23, 23);
        Due.due("a report in the last hour", x.ways(1, 0), 0);
        x.span(2, 0, 22, 22);
        Due.due("a report in the last hour but one", x.ways(1, 0), 0);
        x.span(2, 0, 21, 21);
        Due.due("where they were seen", x.ways(1, 0), 16);
        Due.due("ways(6, 0)", x.ways(6, 0), Due.BEYOND);
        Due.due("ways(0, 30)", x.ways(0, 30), Due.BEYOND);
        for (int wrong : Due.FAR_OUT) {
            Due.due("ways(" + wrong + ", 0)", x.ways(wrong, 0), Due.BEYOND);
            Due.due("ways(0, " + wrong + ")", x.ways(0, wrong), Due.BEYOND);
        }
    }

    private static void waysMost() {
        ReleaseTerms x = new ReleaseTerms();
        for (int one = 0; one < 8; one++) {
            for (int other = one + 1; other < 8; other++) {
                x.road(one, other, true);
            }
        }
        Due.due("8 to the 24", x.ways(0, 0), 1000000);
        for (int hour = 0; hour < 24; hour++) {
            if (hour % 4 != 0) {
                x.seen(0, 0, hour);
            }
        }
        Due.due("8 to the 6", x.ways(0, 0), 262144);
        x.seen(1, 0, 0);
        for (int hour = 8; hour < 24; hour++) {
            x.seen(1, 0, hour);
        }
        x.term(1, 1, 1);
        x.term(1, 1, 2);
        x.term(1, 1, 3);
        Due.due("5 to the 7", x.ways(1, 0), 78125);
        x.seen(2, 0, 0);
        x.term(0, 2, 0);
        x.span(3, 0, 13, 23);
        x.road(0, 7, false);
        x.term(0, 2, 7);
        x.span(4, 0, 12, 12);
        Due.due("many that lead nowhere are none", x.ways(2, 0), 0);
    }

    private static void bars() {
        ReleaseTerms x = new ReleaseTerms();
        Due.due("no terms", x.bars(0, 0), Due.NONE);
        x.term(0, 0, 1);
        x.term(1, 0, 2);
        x.term(2, 0, 3);
        Due.due("the least without which there is one", x.bars(0, 0), 0);
        x.span(0, 0, 0, 0);
        x.seen(0, 1, 5);
        Due.due("by a sighting only the report bars it", x.bars(0, 0), 2);
        x.term(0, 0, 4);
        Due.due("two bar it", x.bars(0, 0), Due.NONE);
        x.span(3, 1, 1, 29);
        Due.due("one that is not in force bars nothing", x.bars(0, 0), 2);
        x.road(1, 3, true);
        Due.due("there is one with all", x.bars(0, 0), Due.NONE);
        x.seen(0, 1, 5);
        x.seen(0, 7, 6);
        Due.due("none without any one", x.bars(0, 0), Due.NONE);
        Due.due("bars(6, 0)", x.bars(6, 0), Due.BEYOND);
        Due.due("bars(0, 30)", x.bars(0, 30), Due.BEYOND);
        for (int wrong : Due.FAR_OUT) {
            Due.due("bars(" + wrong + ", 0)", x.bars(wrong, 0), Due.BEYOND);
            Due.due("bars(0, " + wrong + ")", x.bars(0, wrong), Due.BEYOND);
        }
    }
}
