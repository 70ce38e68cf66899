/** Promises 38 to 44: hold, as, sheet, write, copy, load, judge. */
public final class SheetsTest {
    public static void main(String[] args) {
        hold();
        as();
        sheet();
        write();
        copy();
        copyOrder();
        load();
        loadFull();
        judge();
        judgeAsked();
        judgeOrder();
        Due.end("SheetsTest");
    }

    private static void hold() {
        ReleaseTerms x = new ReleaseTerms();
        Due.due("nothing", x.hold(0, -1), 1);
        Due.due("no such term", x.hold(0, 0), Due.BEYOND);
        x.term(0, 0, 0);
        x.term(1, 0, 0);
        Due.due("hold(9, 1)", x.hold(9, 1), 1);
        Due.due("it is held", x.as(9, 0), 1);
        Due.due("another one", x.hold(9, 0), 1);
        Due.due("that is held", x.as(9, 0), 0);
        Due.due("no such term by then", x.hold(9, 2), Due.BEYOND);
        Due.due("it stays", x.as(9, 0), 0);
        Due.due("nothing again", x.hold(9, -1), 1);
        Due.due("it is gone", x.as(9, 0), Due.MISSING);
        Due.due("hold(10, 0)", x.hold(10, 0), Due.BEYOND);
        for (int wrong : Due.FAR_OUT) {
            Due.due("hold(" + wrong + ", 0)", x.hold(wrong, 0), Due.BEYOND);
            if (wrong != -1) {
                Due.due("hold(0, " + wrong + ")", x.hold(0, wrong), Due.BEYOND);
            }
        }
    }

    private static void as() {
        ReleaseTerms x = new ReleaseTerms();
        // By kind the kinds as which it may be taken, as a set: itself and all above it.
        int[] above = {1, 1 + 2, 1 + 4, 1 + 4 + 8, 1 + 2 + 16, 1 + 32, 1 + 4 + 8 + 64};
        for (int kind = 0; kind < 7; kind++) {
            x.term(kind, kind % 2, 0);
            x.hold(kind, kind);
            for (int wanted = 0; wanted < 7; wanted++) {
                boolean is = (above[kind] >> wanted & 1) != 0;
                Due.due("kind " + kind + " as " + wanted, x.as(kind, wanted), is ? kind : Due.KIND);
            }
        }
        x.turn(6, 5);
        Due.due("it is turned under the spot", x.as(6, 2), Due.KIND);
        Due.due("as(7, 0)", x.as(7, 0), Due.MISSING);
        Due.due("BEYOND is asked ahead of MISSING", x.as(7, 7), Due.BEYOND);
        Due.due("as(10, 0)", x.as(10, 0), Due.BEYOND);
        for (int wrong : Due.FAR_OUT) {
            Due.due("as(" + wrong + ", 0)", x.as(wrong, 0), Due.BEYOND);
            Due.due("as(0, " + wrong + ")", x.as(0, wrong), Due.BEYOND);
        }
    }

    private static void sheet() {
        ReleaseTerms x = new ReleaseTerms();
        Due.due("sheet(0, 8, 40)", x.sheet(0, 8, 40), 40);
        Due.due("sheet(3, 32, 0)", x.sheet(3, 32, 0), 0);
        Due.due("one of no numbers is there", x.write(3, 0, 0), Due.BEYOND);
        Due.due("missing again", x.sheet(0, 0, 12), 0);
        Due.due("it is missing", x.write(0, 0, 0), Due.MISSING);
        Due.due("SIZE", x.sheet(0, 8, -1), Due.SIZE);
        Due.due("SIZE with bits 0", x.sheet(0, 0, -1), Due.SIZE);
        Due.due("SIZE of the least int", x.sheet(0, 0, Integer.MIN_VALUE), Due.SIZE);
        Due.due("41", x.sheet(0, 8, 41), Due.BEYOND);
        Due.due("41 with bits 0", x.sheet(0, 0, 41), Due.BEYOND);
        Due.due("the greatest int", x.sheet(0, 8, Integer.MAX_VALUE), Due.BEYOND);
        Due.due("other bits are asked ahead of SIZE", x.sheet(0, 7, -1), Due.BEYOND);
        Due.due("no such sheet is asked ahead of SIZE", x.sheet(4, 8, -1), Due.BEYOND);
        Due.due("24 bits", x.sheet(0, 24, 1), Due.BEYOND);
        Due.due("64 bits", x.sheet(0, 64, 1), Due.BEYOND);
        for (int wrong : Due.FAR_OUT) {
            Due.due("sheet " + wrong, x.sheet(wrong, 8, 1), Due.BEYOND);
            Due.due("bits " + wrong, x.sheet(0, wrong, 1), Due.BEYOND);
        }
        x.sheet(1, 8, 2);
        x.write(1, 0, 3);
        Due.due("by a finding it stays", x.sheet(1, 8, -5) + x.load(1, 0, 0), Due.SIZE + 2);
        Due.due("place 3", x.where(0, 0), 3);
        Due.due("laid anew", x.sheet(1, 16, 2), 2);
        x.load(1, 0, 1);
        Due.due("all 0", x.where(0, 100), 0);
        x.write(1, 1, 5);
        x.sheet(1, 16, 1);
        x.sheet(1, 16, 2);
        x.load(1, 0, 2);
        Due.due("all 0 behind a shorter one", x.where(0, 201), 0);
    }

    private static void write() {
        ReleaseTerms x = new ReleaseTerms();
        Due.due("missing", x.write(0, 0, 0), Due.MISSING);
        Due.due("no such sheet", x.write(4, 0, 0), Due.BEYOND);
        int[] bits = {8, 16, 32};
        int[] wraps = {256 + 5, 65536 + 5, 5};
        for (int s = 0; s < 3; s++) {
            x.sheet(s, bits[s], 4);
            Due.due("write", x.write(s, 0, wraps[s]), 1);
            x.write(s, 1, -1);
            x.write(s, 2, s == 0 ? 255 : s == 1 ? 65535 : -1);
            x.write(s, 3, s == 0 ? 0x12345601 : s == 1 ? 0x12340001 : 1);
            Due.due("read with " + bits[s] + " bits", x.load(s, s, 0), 2);
            Due.due("the lowest bits", x.where(s, 0), 5);
            Due.due("-1 is -1", x.where(s, 1), Due.NONE);
            Due.due("so are all bits", x.where(s, 2), Due.NONE);
            Due.due("the last number", x.where(s, 3), 1);
        }
        x.sheet(3, 32, 2);
        x.write(3, 0, 256);
        Due.due("32 bits hold more", x.load(3, 0, 1), 0);
        x.write(3, 0, 255);
        Due.due("255 is no -1 there", x.load(3, 0, 1), 0);
        Due.due("no such number", x.write(3, 2, 0), Due.BEYOND);
        for (int wrong : Due.FAR_OUT) {
            Due.due("sheet " + wrong, x.write(wrong, 0, 0), Due.BEYOND);
            Due.due("number " + wrong, x.write(3, wrong, 0), Due.BEYOND);
        }
        x.sheet(3, 0, 0);
        Due.due("MISSING is asked ahead of the number", x.write(3, -1, 0), Due.MISSING);
    }

    /** What is on a sheet, as digits, by loading it on a new day. */
    private static void isOn(ReleaseTerms x, int s, int day, String digits) {
        Due.due("numbers of sheet " + s, x.load(s, 0, day), digits.length());
        for (int i = 0; i < digits.length(); i++) {
            Due.due("number " + i + " of sheet " + s, x.where(0, 100 * day + i), digits.charAt(i) - '0');
        }
    }

    private static void fill(ReleaseTerms x, int s, int bits, String digits) {
        x.sheet(s, bits, digits.length());
        for (int i = 0; i < digits.length(); i++) {
            x.write(s, i, digits.charAt(i) - '0');
        }
    }

    private static void copy() {
        ReleaseTerms x = new ReleaseTerms();
        fill(x, 0, 8, "1234567");
        fill(x, 1, 8, "0000");
        Due.due("copy(0, 2, 1, 1, 3)", x.copy(0, 2, 1, 1, 3), 3);
        isOn(x, 1, 0, "0345");
        Due.due("onto itself, upward", x.copy(0, 0, 0, 2, 5), 5);
        isOn(x, 0, 1, "1212345");
        fill(x, 0, 8, "1234567");
        Due.due("onto itself, downward", x.copy(0, 2, 0, 0, 5), 5);
        isOn(x, 0, 2, "3456767");
        Due.due("all of it", x.copy(1, 0, 0, 3, 4), 4);
        isOn(x, 0, 3, "3450345");
        Due.due("none at the end", x.copy(0, 7, 1, 4, 0), 0);
        Due.due("none at the begin", x.copy(0, 0, 1, 0, 0), 0);
        isOn(x, 1, 4, "0345");
    }

    private static void copyOrder() {
        ReleaseTerms x = new ReleaseTerms();
        x.sheet(0, 8, 7);
        x.sheet(1, 8, 4);
        x.sheet(2, 16, 7);
        Due.due("one too many there", x.copy(0, 0, 1, 0, 5), Due.BEYOND);
        Due.due("one too many here", x.copy(1, 1, 0, 0, 4), Due.BEYOND);
        Due.due("none behind the end", x.copy(0, 8, 1, 0, 0), Due.BEYOND);
        Due.due("none behind the end there", x.copy(0, 0, 1, 5, 0), Due.BEYOND);
        for (int wrong : Due.FAR_OUT) {
            Due.due("from " + wrong, x.copy(0, wrong, 1, 0, 1), Due.BEYOND);
            Due.due("to " + wrong, x.copy(0, 0, 1, wrong, 1), Due.BEYOND);
            Due.due("n " + wrong, x.copy(0, 0, 1, 0, wrong), Due.BEYOND);
            Due.due("s " + wrong, x.copy(wrong, 0, 3, 0, 1), Due.BEYOND);
            Due.due("t " + wrong, x.copy(3, 0, wrong, 0, 1), Due.BEYOND);
        }
        Due.due("sums past all ints", x.copy(0, Integer.MAX_VALUE, 1, 1, Integer.MAX_VALUE), Due.BEYOND);
        Due.due("the first is missing", x.copy(3, 0, 0, 0, 1), Due.MISSING);
        Due.due("the second is missing", x.copy(0, 0, 3, 0, 1), Due.MISSING);
        Due.due("MISSING is asked ahead of numbers", x.copy(0, -1, 3, 0, 1), Due.MISSING);
        Due.due("other bits", x.copy(0, 0, 2, 0, 1), Due.KIND);
        Due.due("KIND is asked ahead of numbers", x.copy(0, 0, 2, 0, -1), Due.KIND);
        Due.due("KIND with no numbers", x.copy(0, 0, 2, 0, 0), Due.KIND);
    }

    private static void load() {
        ReleaseTerms x = new ReleaseTerms();
        Due.due("missing", x.load(0, 0, 0), Due.MISSING);
        Due.due("MISSING is asked ahead of the person", x.load(0, 6, 0), Due.MISSING);
        Due.due("no such sheet", x.load(4, 6, 0), Due.BEYOND);
        x.sheet(0, 8, 6);
        x.write(0, 0, 7);
        x.write(0, 1, -1);
        x.write(0, 2, 2);
        x.write(0, 3, 8);
        Due.due("load(0, 5, 29)", x.load(0, 5, 29), 2);
        Due.due("hour 0", x.where(5, 2900), 7);
        Due.due("hour 1", x.where(5, 2901), Due.NONE);
        Due.due("hour 2", x.where(5, 2902), 2);
        Due.due("hour 4 is behind the end", x.where(5, 2904), Due.NONE);
        Due.due("in their order", x.seenOf(1, 3), 2);
        x.write(0, 3, -2);
        Due.due("-2 ends it", x.load(0, 5, 28), 2);
        x.sheet(1, 16, 40);
        Due.due("24 hours only", x.load(1, 0, 0), 24);
        Due.due("they are there", x.where(0, 23), 0);
        x.sheet(2, 32, 0);
        Due.due("no numbers", x.load(2, 0, 0), 0);
        Due.due("person 6", x.load(0, 6, 0), Due.BEYOND);
        Due.due("day 30", x.load(0, 0, 30), Due.BEYOND);
        for (int wrong : Due.FAR_OUT) {
            Due.due("sheet " + wrong, x.load(wrong, 0, 0), Due.BEYOND);
            Due.due("person " + wrong, x.load(0, wrong, 0), Due.BEYOND);
            Due.due("day " + wrong, x.load(0, 0, wrong), Due.BEYOND);
        }
    }

    private static void loadFull() {
        ReleaseTerms x = new ReleaseTerms();
        for (int i = 0; i < 58; i++) {
            x.seen(0, 0, 0);
        }
        x.sheet(0, 8, 24);
        x.write(0, 0, -1);
        Due.due("room for two", x.load(0, 1, 1), 2);
        Due.due("the second", x.where(1, 102), 0);
        Due.due("no third", x.where(1, 103), Due.NONE);
        Due.due("no room at all", x.load(0, 1, 1), 0);
        Due.due("load is never FULL", x.status(1), 0);
    }

    private static void judge() {
        ReleaseTerms x = new ReleaseTerms();
        Due.due("missing", x.judge(0, 6, 0), Due.MISSING);
        Due.due("no such sheet", x.judge(4, 6, 0), Due.BEYOND);
        x.sheet(0, 8, 24);
        Due.due("a lawful one", x.judge(0, 0, 0), 0);
        x.write(0, 23, 1);
        Due.due("not to be reached", x.judge(0, 0, 0), 24);
        x.road(0, 1, true);
        Due.due("to be reached", x.judge(0, 0, 0), 0);
        x.seen(0, 1, 22);
        Due.due("seen elsewhere", x.judge(0, 0, 0), 23);
        Due.due("on another day", x.judge(0, 0, 1), 0);
        Due.due("another person", x.judge(0, 1, 0), 0);
        x.term(1, 0, 0);
        x.span(0, 0, 7, 9);
        Due.due("barred at 7", x.judge(0, 0, 0), 8);
        x.span(0, 1, 1, 29);
        Due.due("not in force", x.judge(0, 0, 0), 23);
        x.write(0, 4, 8);
        Due.due("no place", x.judge(0, 0, 0), 5);
        x.write(0, 0, -1);
        Due.due("no place at the begin", x.judge(0, 0, 0), 1);
        Due.due("person 6", x.judge(0, 6, 0), Due.BEYOND);
        Due.due("day 30", x.judge(0, 0, 30), Due.BEYOND);
        for (int wrong : Due.FAR_OUT) {
            Due.due("sheet " + wrong, x.judge(wrong, 0, 0), Due.BEYOND);
            Due.due("person " + wrong, x.judge(0, wrong, 0), Due.BEYOND);
            Due.due("day " + wrong, x.judge(0, 0, wrong), Due.BEYOND);
        }
        x.term(0, 2, 0);
        x.term(4, 3, 1);
        x.sheet(1, 32, 24);
        Due.due("at home", x.judge(1, 2, 0), 0);
        x.write(1, 3, 1);
        Due.due("not at home", x.judge(1, 2, 0), 4);
        Due.due("near from the begin", x.judge(1, 3, 0), 1);
    }

    private static void judgeAsked() {
        ReleaseTerms x = new ReleaseTerms();
        x.term(0, 1, 0);
        x.term(3, 0, 1);
        x.term(2, 0, 1);
        x.road(0, 1, true);
        x.sheet(0, 8, 24);
        Due.due("the least of two too seldom", x.judge(0, 0, 0), 27);
        x.write(0, 5, 1);
        Due.due("once is enough for one", x.judge(0, 0, 0), 27);
        x.turn(1, 2);
        Due.due("for both", x.judge(0, 0, 0), 0);
        x.turn(2, 3);
        Due.due("not for the second", x.judge(0, 0, 0), 28);
        x.write(0, 7, 1);
        Due.due("twice", x.judge(0, 0, 0), 0);
        x.span(2, 0, 6, 23);
        Due.due("its hours alone count", x.judge(0, 0, 0), 28);
        x.span(2, 1, 1, 1);
        Due.due("and its days", x.judge(0, 0, 0), 0);
        x.span(2, 1, 0, 29);
        x.span(2, 0, 5, 7);
        x.turn(2, 6);
        Due.due("three", x.judge(0, 0, 0), 28);
        x.write(0, 6, 1);
        Due.due("three times", x.judge(0, 0, 0), 0);
    }

    private static void judgeOrder() {
        ReleaseTerms x = new ReleaseTerms();
        x.term(2, 0, 7);
        x.sheet(0, 8, 23);
        Due.due("too short is told ahead of what is asked", x.judge(0, 0, 0), 25);
        x.sheet(1, 8, 40);
        Due.due("too long", x.judge(1, 0, 0), 25);
        x.sheet(2, 8, 0);
        Due.due("none", x.judge(2, 0, 0), 25);
        x.write(0, 22, 1);
        Due.due("a wrong number is told ahead of the length", x.judge(0, 0, 0), 23);
        x.write(1, 23, 1);
        Due.due("a wrong one in the last hour", x.judge(1, 0, 0), 24);
        x.sheet(3, 8, 24);
        Due.due("26 and the term", x.judge(3, 0, 0), 26);
    }
}
