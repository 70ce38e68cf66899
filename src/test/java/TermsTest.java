/** Promises 10 to 19: term, termOf, span, turn, change, bad, inForce, kept, count, breach. */
public final class TermsTest {
    public static void main(String[] args) {
        term();
        termOf();
        span();
        turn();
        change();
        changeFull();
        bad();
        inForce();
        kept();
        keptAsked();
        keptImpossible();
        count();
        breach();
        Due.end("TermsTest");
    }

    private static void term() {
        ReleaseTerms x = new ReleaseTerms();
        for (int i = 0; i < 5; i++) {
            Due.due("term " + i + " of person 5", x.term(6, 5, 7), i);
        }
        Due.due("a 6th of one person", x.term(0, 5, 0), Due.FULL);
        for (int i = 5; i < 10; i++) {
            Due.due("term " + i + " of person 0", x.term(0, 0, 0), i);
        }
        x.term(0, 1, 0);
        Due.due("the 12th", x.term(0, 2, 0), 11);
        Due.due("a 13th", x.term(0, 3, 0), Due.FULL);
        Due.due("BEYOND is asked ahead of FULL", x.term(7, 3, 0), Due.BEYOND);
        Due.due("12 stay", x.many(1), 12);
        Due.due("term(0, 6, 0)", x.term(0, 6, 0), Due.BEYOND);
        Due.due("term(0, 0, 8)", x.term(0, 0, 8), Due.BEYOND);
        for (int wrong : Due.FAR_OUT) {
            Due.due("term(" + wrong + ", 0, 0)", x.term(wrong, 0, 0), Due.BEYOND);
            Due.due("term(0, " + wrong + ", 0)", x.term(0, wrong, 0), Due.BEYOND);
            Due.due("term(0, 0, " + wrong + ")", x.term(0, 0, wrong), Due.BEYOND);
        }
    }

    private static void termOf() {
        ReleaseTerms x = new ReleaseTerms();
        int[] asked = {0, 0, 1, 2, 0, 0, 3};
        for (int kind = 0; kind < 7; kind++) {
            x.term(kind, kind % 3, 7 - kind);
            int[] want = {kind, kind % 3, 7 - kind, 0, 23, 0, 29, asked[kind]};
            for (int what = 0; what < 8; what++) {
                Due.due("termOf(" + kind + ", " + what + ")", x.termOf(kind, what), want[what]);
            }
        }
        Due.due("termOf(7, 0)", x.termOf(7, 0), Due.BEYOND);
        Due.due("termOf(0, 8)", x.termOf(0, 8), Due.BEYOND);
        for (int wrong : Due.FAR_OUT) {
            Due.due("termOf(" + wrong + ", 0)", x.termOf(wrong, 0), Due.BEYOND);
            Due.due("termOf(0, " + wrong + ")", x.termOf(0, wrong), Due.BEYOND);
        }
    }

    private static void span() {
        ReleaseTerms x = new ReleaseTerms();
        x.term(0, 0, 0);
        Due.due("span(0, 0, 5, 9)", x.span(0, 0, 5, 9), 1);
        Due.due("span(0, 1, 10, 29)", x.span(0, 1, 10, 29), 1);
        int[] want = {0, 0, 0, 5, 9, 10, 29, 0};
        for (int what = 0; what < 8; what++) {
            Due.due("spanned termOf(0, " + what + ")", x.termOf(0, what), want[what]);
        }
        Due.due("one hour", x.span(0, 0, 23, 23), 1);
        Due.due("one day", x.span(0, 1, 29, 29), 1);
        Due.due("hours turned round", x.span(0, 0, 9, 8), Due.BEYOND);
        Due.due("days turned round", x.span(0, 1, 9, 8), Due.BEYOND);
        Due.due("hour 24", x.span(0, 0, 0, 24), Due.BEYOND);
        Due.due("day 24", x.span(0, 1, 0, 24), 1);
        Due.due("day 30", x.span(0, 1, 0, 30), Due.BEYOND);
        Due.due("hour -1", x.span(0, 0, -1, 3), Due.BEYOND);
        Due.due("day -1", x.span(0, 1, -1, 3), Due.BEYOND);
        Due.due("what 2", x.span(0, 2, 0, 0), Due.BEYOND);
        Due.due("what -1", x.span(0, -1, 0, 0), Due.BEYOND);
        Due.due("term 1", x.span(1, 0, 0, 0), Due.BEYOND);
        for (int wrong : Due.FAR_OUT) {
            Due.due("span(" + wrong + ", ..)", x.span(wrong, 0, 0, 0), Due.BEYOND);
            Due.due("span(0, " + wrong + ", ..)", x.span(0, wrong, 0, 0), Due.BEYOND);
            Due.due("span(.. to " + wrong + ")", x.span(0, 0, 0, wrong), Due.BEYOND);
            Due.due("span(.. from " + wrong + ")", x.span(0, 1, wrong, 29), Due.BEYOND);
        }
        Due.due("hours stay by a finding", x.termOf(0, 3), 23);
        Due.due("days stay by a finding", x.termOf(0, 6), 24);
    }

    private static void turn() {
        ReleaseTerms x = new ReleaseTerms();
        x.term(2, 0, 3);
        Due.due("turn(0, 6)", x.turn(0, 6), 2);
        Due.due("what is asked of it", x.termOf(0, 7), 3);
        Due.due("turn(0, 6) again", x.turn(0, 6), 6);
        Due.due("turn(0, 1)", x.turn(0, 1), 6);
        Due.due("what is bad by it", x.bad(0), 8);
        Due.due("turn(0, 7)", x.turn(0, 7), Due.BEYOND);
        Due.due("turn(1, 0)", x.turn(1, 0), Due.BEYOND);
        for (int wrong : Due.FAR_OUT) {
            Due.due("turn(" + wrong + ", 0)", x.turn(wrong, 0), Due.BEYOND);
            Due.due("turn(0, " + wrong + ")", x.turn(0, wrong), Due.BEYOND);
        }
        Due.due("its kind stays by a finding", x.termOf(0, 0), 1);
    }

    private static void change() {
        ReleaseTerms x = new ReleaseTerms();
        x.term(3, 4, 1);
        x.span(0, 0, 6, 11);
        x.span(0, 1, 5, 20);
        Due.due("not behind its first day", x.change(0, 5, 2), Due.STATE);
        Due.due("behind its last day", x.change(0, 21, 2), Due.STATE);
        Due.due("change(0, 20, 2)", x.change(0, 20, 2), 1);
        int[] first = {3, 4, 1, 6, 11, 5, 19, 2};
        int[] second = {3, 4, 2, 6, 11, 20, 20, 2};
        for (int what = 0; what < 8; what++) {
            Due.due("the first, " + what, x.termOf(0, what), first[what]);
            Due.due("the new one, " + what, x.termOf(1, what), second[what]);
        }
        Due.due("on the day behind its first", x.change(0, 6, 1), 2);
        Due.due("day 0", x.change(0, 0, 1), Due.BEYOND);
        Due.due("day 30", x.change(0, 30, 1), Due.BEYOND);
        Due.due("place 8", x.change(0, 6, 8), Due.BEYOND);
        Due.due("BEYOND is asked ahead of STATE", x.change(0, 29, 8), Due.BEYOND);
        Due.due("term 3", x.change(3, 6, 0), Due.BEYOND);
        for (int wrong : Due.FAR_OUT) {
            Due.due("change(" + wrong + ", 1, 0)", x.change(wrong, 1, 0), Due.BEYOND);
            Due.due("change(0, " + wrong + ", 0)", x.change(0, wrong, 0), Due.BEYOND);
            Due.due("change(0, 1, " + wrong + ")", x.change(0, 1, wrong), Due.BEYOND);
        }
        Due.due("three stay", x.many(1), 3);
    }

    private static void changeFull() {
        ReleaseTerms x = new ReleaseTerms();
        for (int i = 0; i < 5; i++) {
            x.term(0, 0, 0);
        }
        Due.due("the person has 5", x.change(0, 1, 1), Due.FULL);
        Due.due("its last day stays", x.termOf(0, 6), 29);
        x.span(0, 1, 3, 5);
        Due.due("STATE is asked ahead of FULL", x.change(0, 3, 1), Due.STATE);
        for (int i = 0; i < 4; i++) {
            x.term(0, 1, 0);
            x.term(0, 2, 0);
        }
        Due.due("there are 12", x.many(1), 12);
        Due.due("a 13th", x.change(5, 3, 1), Due.FULL);
    }

    private static void bad() {
        ReleaseTerms x = new ReleaseTerms();
        x.road(2, 3, true);
        x.road(7, 2, true);
        x.road(3, 4, true);
        int[] want = {255 - 4, 4, 0, 0, 4 + 8 + 128, 255 - 4, 0};
        for (int kind = 0; kind < 7; kind++) {
            x.term(kind, kind % 3, 2);
            Due.due("bad of kind " + kind, x.bad(kind), want[kind]);
        }
        x.road(2, 7, false);
        Due.due("near, with a road less", x.bad(4), 4 + 8);
        Due.due("bad(7)", x.bad(7), Due.BEYOND);
        for (int wrong : Due.FAR_OUT) {
            Due.due("bad(" + wrong + ")", x.bad(wrong), Due.BEYOND);
        }
    }

    private static void inForce() {
        ReleaseTerms x = new ReleaseTerms();
        x.term(0, 1, 0);
        x.term(5, 1, 0);
        x.term(0, 2, 0);
        x.term(2, 1, 0);
        x.span(3, 1, 4, 6);
        int[] want = {3, 3, 3, 3, 11, 9, 9, 3, 3, 3, 3, 3, 1, 1, 3};
        for (int day = 0; day < want.length; day++) {
            Due.due("inForce(1, " + day + ")", x.inForce(1, day), want[day]);
        }
        Due.due("weekly on its last days", x.inForce(1, 29), 3);
        Due.due("weekly on day 27", x.inForce(1, 27), 1);
        Due.due("another person", x.inForce(2, 0), 4);
        Due.due("a person without", x.inForce(0, 0), 0);
        Due.due("inForce(6, 0)", x.inForce(6, 0), Due.BEYOND);
        Due.due("inForce(0, 30)", x.inForce(0, 30), Due.BEYOND);
        for (int wrong : Due.FAR_OUT) {
            Due.due("inForce(" + wrong + ", 0)", x.inForce(wrong, 0), Due.BEYOND);
            Due.due("inForce(0, " + wrong + ")", x.inForce(0, wrong), Due.BEYOND);
        }
    }

    private static void kept() {
        ReleaseTerms x = new ReleaseTerms();
        x.term(0, 0, 3);
        x.term(1, 0, 3);
        Due.due("at home, nobody saw them", x.kept(0, 0), 1);
        Due.due("barred, nobody saw them", x.kept(1, 0), 1);
        x.seen(0, 3, 12);
        Due.due("without roads they never left", x.kept(0, 0), 0);
        Due.due("without roads they were always there", x.kept(1, 0), 2);
        x.road(3, 4, true);
        Due.due("they may have left", x.kept(0, 0), 1);
        Due.due("they were there at 12", x.kept(1, 0), 2);
        x.span(1, 0, 13, 23);
        Due.due("barred from 13 on only", x.kept(1, 0), 1);
        x.seen(0, 4, 13);
        Due.due("at home was broken", x.kept(0, 0), 2);
        x.span(0, 0, 0, 12);
        Due.due("at home till 12 is in doubt", x.kept(0, 0), 1);
        x.span(0, 0, 12, 12);
        Due.due("at home at 12 is sure", x.kept(0, 0), 0);
        x.span(0, 1, 3, 4);
        Due.due("it is not in force", x.kept(0, 0), Due.NONE);
        Due.due("on its first day", x.kept(0, 3), 1);
        Due.due("on its last day", x.kept(0, 4), 1);
        Due.due("behind its last day", x.kept(0, 5), Due.NONE);
        Due.due("kept(2, 0)", x.kept(2, 0), Due.BEYOND);
        Due.due("kept(0, 30)", x.kept(0, 30), Due.BEYOND);
        for (int wrong : Due.FAR_OUT) {
            Due.due("kept(" + wrong + ", 0)", x.kept(wrong, 0), Due.BEYOND);
            Due.due("kept(0, " + wrong + ")", x.kept(0, wrong), Due.BEYOND);
        }
        x.term(4, 1, 5);
        x.seen(1, 6, 1);
        Due.due("near, no road there", x.kept(2, 0), 0);
        x.road(5, 6, true);
        Due.due("near, a road there", x.kept(2, 0), 2);
    }

    private static void keptAsked() {
        ReleaseTerms x = new ReleaseTerms();
        x.road(0, 1, true);
        x.term(2, 0, 1);
        x.span(0, 0, 10, 12);
        x.seen(0, 0, 9);
        Due.due("a report is in doubt", x.kept(0, 0), 1);
        x.seen(0, 1, 11);
        Due.due("a report is kept", x.kept(0, 0), 0);
        x.turn(0, 3);
        Due.due("two are in doubt", x.kept(0, 0), 1);
        x.turn(0, 6);
        Due.due("three are in doubt", x.kept(0, 0), 1);
        x.seen(0, 1, 10);
        Due.due("the third is in doubt", x.kept(0, 0), 1);
        x.turn(0, 3);
        Due.due("two are sure", x.kept(0, 0), 0);
        x.turn(0, 6);
        x.seen(0, 1, 12);
        Due.due("three are sure", x.kept(0, 0), 0);
        x.span(0, 0, 11, 12);
        Due.due("three in two hours can't be", x.kept(0, 0), 2);
        x.span(0, 0, 10, 23);
        Due.due("more than asked is kept too", x.kept(0, 0), 0);
        x.span(0, 0, 0, 9);
        x.seen(0, 1, 8);
        x.seen(0, 0, 7);
        Due.due("hours before count too", x.kept(0, 0), 1);
    }

    private static void keptImpossible() {
        ReleaseTerms x = new ReleaseTerms();
        x.term(2, 0, 0);
        x.term(0, 0, 0);
        x.seen(0, 0, 5);
        x.seen(0, 1, 6);
        Due.due("no way at all: a report", x.kept(0, 0), 3);
        Due.due("no way at all: a term", x.kept(1, 0), 3);
        x.span(1, 0, 20, 21);
        Due.due("no way at all in other hours", x.kept(1, 0), 3);
        Due.due("the day behind", x.kept(0, 1), 1);
        x.road(0, 1, true);
        Due.due("a road mends it", x.kept(0, 0), 0);
    }

    private static void count() {
        ReleaseTerms x = new ReleaseTerms();
        x.term(5, 0, 0);
        x.seen(0, 0, 0);
        x.seen(0, 1, 100);
        x.seen(0, 1, 200);
        x.seen(0, 0, 201);
        x.seen(0, 1, 500);
        int[] all = {1, 19, 1, 1};
        for (int what = 0; what < 4; what++) {
            Due.due("count(0, 0, 29, " + what + ")", x.count(0, 0, 29, what), all[what]);
        }
        Due.due("one day", x.count(0, 2, 2, 3), 1);
        Due.due("days on which it is not in force", x.count(0, 5, 6, 2), 0);
        Due.due("both ends count", x.count(0, 1, 3, 2) + x.count(0, 0, 1, 2), 2);
        Due.due("the second less", x.count(0, 3, 2, 0), Due.BEYOND);
        Due.due("what 4", x.count(0, 0, 1, 4), Due.BEYOND);
        Due.due("day 30", x.count(0, 0, 30, 0), Due.BEYOND);
        Due.due("term 1", x.count(1, 0, 0, 0), Due.BEYOND);
        for (int wrong : Due.FAR_OUT) {
            Due.due("count(" + wrong + ", ..)", x.count(wrong, 0, 0, 0), Due.BEYOND);
            Due.due("count(0, " + wrong + ", ..)", x.count(0, wrong, 29, 0), Due.BEYOND);
            Due.due("count(0, 0, " + wrong + ", ..)", x.count(0, 0, wrong, 0), Due.BEYOND);
            Due.due("count(0, 0, 0, " + wrong + ")", x.count(0, 0, 0, wrong), Due.BEYOND);
        }
    }

    private static void breach() {
        ReleaseTerms x = new ReleaseTerms();
        Due.due("no term", x.breach(0, 0), Due.NONE);
        x.term(0, 0, 0);
        x.term(2, 0, 1);
        x.span(1, 0, 8, 9);
        x.span(1, 1, 10, 20);
        Due.due("doubt is no breach", x.breach(0, 0), Due.NONE);
        x.seen(0, 0, 308);
        x.seen(0, 1, 309);
        Due.due("what is impossible is no breach", x.breach(0, 0), Due.NONE);
        x.seen(0, 5, 2500);
        Due.due("a term broken", x.breach(0, 0), 25);
        x.seen(0, 0, 1200);
        Due.due("a report broken", x.breach(0, 0), 12);
        Due.due("from its day on", x.breach(0, 12), 12);
        Due.due("from the day behind it", x.breach(0, 13), 25);
        Due.due("from the day behind the last", x.breach(0, 26), Due.NONE);
        x.seen(1, 5, 100);
        x.term(0, 1, 5);
        Due.due("another person", x.breach(1, 0), Due.NONE);
        x.seen(0, 5, 2900);
        Due.due("on the last day", x.breach(0, 29), 29);
        Due.due("breach(6, 0)", x.breach(6, 0), Due.BEYOND);
        Due.due("breach(0, 30)", x.breach(0, 30), Due.BEYOND);
        for (int wrong : Due.FAR_OUT) {
            Due.due("breach(" + wrong + ", 0)", x.breach(wrong, 0), Due.BEYOND);
            Due.due("breach(0, " + wrong + ")", x.breach(0, wrong), Due.BEYOND);
        }
    }
}
