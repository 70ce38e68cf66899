/** Point 3 of "Terms": the tape, tokens, items, faults, draws, spots, sheets. */
final class EdgesOfPointThree {
    private static final String POINT = "Terms 3";

    private EdgesOfPointThree() {
    }

    static void run() {
        tape();
        tokens();
        signs();
        blanks();
        items();
        roadsAndBails();
        terms();
        hoursAndDays();
        faultOfNumber();
        faultOfWord();
        faultOfByte();
        faultOfThirteenth();
        faultOfFifthPerson();
        faultOfEnd();
        draws();
        spotsAndSheets();
    }

    private static void reads(String text, int answer) {
        Edges.is("\"" + text + "\"", Due.read(new ReleaseTerms(), text), answer);
    }

    private static void fault(String text, int place) {
        reads(text, -1 - place);
    }

    private static void tape() {
        ReleaseTerms x = Edges.edge(POINT, "A TEXT is read from THE TAPE (bytes, at most 120).");
        for (int i = 1; i <= 30; i++) {
            Edges.is("four more", x.feed(0x20202020, 4), 4 * i);
        }
        Edges.is("a 121st", x.feed(0x20, 1), Due.FULL);
        Edges.is("120", x.many(4), 120);
        Edges.is("all of them are read", x.text(), -121);
        String items = "road 0 1;".repeat(12) + "road 6 7 ;;;";
        Edges.is("a text of 120", Due.read(x, items), -1 - 118);
        Edges.is("a right one", Due.read(x, items.replace(" ;;;", "    ")), 13);
        Edges.is("its last item", x.roads(6), 128);
    }

    private static void tokens() {
        Edges.edge(POINT, "TOKENS, each as long as can be");
        fault("roadroad 0 1", 0);
        fault("roadbail 0 1", 0);
        fault("bail 0 1atbail 0 1", 8);
        fault("road 01", 7);
        fault("road 0 12", 7);
        reads("road 00 01", 1);
        reads("road0 1;bail5 9", 2);
        fault("term 0 at0hours01 2days3 4hours", 26);
        Edges.edge(POINT, "WORDS (letters a to z)");
        reads("weekly0at0", 1);
        fault("`road 0 1", 0);
        fault("{road 0 1", 0);
        fault("road`0 1", 4);
        fault("road{0 1", 4);
        fault("ROAD 0 1", 0);
        fault("roaD 0 1", 0);
        fault("azerty", 0);
        fault("roada 0 1", 0);
        fault("roadz 0 1", 0);
        ReleaseTerms x = Edges.edge(POINT, "NUMBERS (digits, 9999 at most)");
        Edges.is("9999", Due.read(x, "bail 0 9999"), 1);
        Edges.is("it is so", x.bail(0, 0), 9999);
        fault("bail 0 10000", 7);
        fault("bail 0 99990", 7);
        fault("bail 0 2147483648", 7);
        fault("bail 0 4294967297", 7);
        fault("bail 0 18446744073709551617", 7);
        reads("bail 0 00009999", 1);
        fault("road /", 5);
        fault("road :", 5);
        fault("bail 0 1.5", 8);
    }

    private static void signs() {
        Edges.edge(POINT, "SIGN ;");
        reads("road 0 1;road 1 2", 2);
        fault("road 0 1:road 1 2", 8);
        fault("road 0 1<road 1 2", 8);
        fault("road 0 1;;road 1 2", 9);
    }

    private static void blanks() {
        Edges.edge(POINT, "blanks may stand between");
        reads("  road  0  1  ;  road  1  2  ", 2);
        reads("road0 1;road1 2", 2);
        fault("ro ad 0 1", 0);
        fault("road\t0 1", 4);
        fault("road 0\n1", 6);
        fault("road 0\0001", 6);
        fault("road\u00a00 1", 4);
    }

    private static void items() {
        Edges.edge(POINT, "TEXT: ITEM { ; ITEM }.");
        reads("road 0 1", 1);
        reads("road 0 1" + ";road 0 1".repeat(12), 13);
        reads("bail0 0" + ";bail0 0".repeat(14), 15);
        fault("", 0);
        fault(";", 0);
        fault(";road 0 1", 0);
        fault("road 0 1;", 9);
        fault("road 0 1 road 0 1", 9);
        fault("road 0 1 2", 9);
    }

    private static void roadsAndBails() {
        ReleaseTerms x = Edges.edge(POINT, "ITEM: road, a NUMBER, a NUMBER (0 to 7, another one): there is a ROAD");
        Edges.is("0 and 7", Due.read(x, "road 0 7"), 1);
        Edges.is("it is there", x.roads(7), 1);
        Edges.is("it is there again", Due.read(x, "road 7 0"), 1);
        Edges.is("one road", x.many(2), 1);
        fault("road 8 0", 5);
        fault("road 0 8", 7);
        fault("road 0 0", 7);
        fault("road 7 7", 7);
        fault("road 7 07", 7);
        x = Edges.edge(POINT, "bail, a NUMBER (0 to 5), a NUMBER (0 to 9999)");
        Edges.is("both ends", Due.read(x, "bail 0 9999;bail 5 0;bail 5 1"), 3);
        Edges.is("bail of 0", x.bail(0, 0), 9999);
        Edges.is("bail of 5", x.bail(5, 0), 1);
        fault("bail 6 0", 5);
        fault("bail 9999 0", 5);
        fault("bail 0 10000", 7);
    }

    private static void isTerm(ReleaseTerms x, int term, int... want) {
        for (int what = 0; what < want.length; what++) {
            Edges.is("termOf(" + term + ", " + what + ")", x.termOf(term, what), want[what]);
        }
    }

    private static void terms() {
        ReleaseTerms x = Edges.edge(POINT, "term, barred, report, counted, near, weekly or strict, a NUMBER "
                + "(0 to 5: PERSON)");
        Edges.is("all kinds", Due.read(x, "term0at0;barred5at0;report0at0;counted5at0;near0at0;weekly5at0;strict0at0"),
                7);
        for (int kind = 0; kind < 7; kind++) {
            isTerm(x, kind, kind, kind % 2 == 0 ? 0 : 5, 0, 0, 23, 0, 29);
        }
        fault("term 6 at 0", 5);
        fault("strict 10 at 0", 7);
        x = Edges.edge(POINT, "at, a NUMBER (0 to 7: PLACE)");
        Edges.is("both ends", Due.read(x, "near 0 at 0;near 0 at 7"), 2);
        isTerm(x, 0, 4, 0, 0);
        isTerm(x, 1, 4, 0, 7);
        fault("term 0 at 8", 10);
        fault("term 0 0", 7);
    }

    private static void hoursAndDays() {
        ReleaseTerms x = Edges.edge(POINT, "perhaps hours, a NUMBER, a NUMBER (0 to 23; the second no less; "
                + "without it 0 and 23)");
        Edges.is("with and without", Due.read(x, "term0at0hours0 23;term0at0hours23 23;term0at0hours0 0;term0at0"), 4);
        isTerm(x, 0, 0, 0, 0, 0, 23, 0, 29);
        isTerm(x, 1, 0, 0, 0, 23, 23, 0, 29);
        isTerm(x, 2, 0, 0, 0, 0, 0, 0, 29);
        isTerm(x, 3, 0, 0, 0, 0, 23, 0, 29);
        fault("term 0 at 0 hours 24 24", 18);
        fault("term 0 at 0 hours 0 24", 20);
        fault("term 0 at 0 hours 23 22", 21);
        fault("term 0 at 0 hours 1 0", 20);
        fault("term 0 at 0 hours 1 2 3", 22);
        x = Edges.edge(POINT, "perhaps days, a NUMBER, a NUMBER (0 to 29; the second no less; without it 0 and 29): "
                + "a new TERM");
        Edges.is("with and without", Due.read(x, "term0at0days0 29;term0at0days29 29;term0at0hours2 3days0 0;term0at0"),
                4);
        isTerm(x, 0, 0, 0, 0, 0, 23, 0, 29);
        isTerm(x, 1, 0, 0, 0, 0, 23, 29, 29);
        isTerm(x, 2, 0, 0, 0, 2, 3, 0, 0);
        isTerm(x, 3, 0, 0, 0, 0, 23, 0, 29);
        fault("term 0 at 0 days 30 30", 17);
        fault("term 0 at 0 days 0 30", 19);
        fault("term 0 at 0 days 29 28", 20);
        fault("term 0 at 0 days 1 0", 19);
        fault("term 0 at 0 days 1 2 hours 1 2", 21);
    }

    private static void faultOfNumber() {
        Edges.edge(POINT, "FAULT: the place (from 0) of the first byte of the first TOKEN that can't stand there "
                + "(a NUMBER that isn't as told");
        fault("road 99 99", 5);
        fault("  road  1  1", 11);
        fault("road 1 1;road 2 2", 7);
        fault("road 0 1;road 2 2", 16);
        fault("5", 0);
        fault("term 0 at 0 hours 9 10 11", 23);
    }

    private static void faultOfWord() {
        Edges.edge(POINT, "another WORD");
        fault("toad 0 1", 0);
        fault("roads 0 1", 0);
        fault("roa 0 1", 0);
        fault("at 0", 0);
        fault("road bail", 5);
        fault("term 0 on 0", 7);
        fault("term 0 at at", 10);
        fault("term 0 at 0 hour 0 1", 12);
        fault("term 0 at 0 hours days", 18);
        fault("term 0 at 0 hours 0 1 hours 0 1", 22);
        fault("term 0 at 0 days 0 1 days 0 1", 21);
        fault("bail 0 1 bail 0 1", 9);
    }

    private static void faultOfByte() {
        Edges.edge(POINT, "a byte that begins no TOKEN");
        fault("-", 0);
        fault("road -1 0", 5);
        fault("road 0 1,", 8);
        fault("road 0 1\u0080", 8);
        fault("road 0 1\u00ff", 8);
        fault("\0", 0);
        fault("   \u007f", 3);
    }

    private static void faultOfThirteenth() {
        ReleaseTerms x = Edges.edge(POINT, "the WORD of a 13th TERM");
        for (int term = 0; term < 11; term++) {
            x.term(0, term % 3, 0);
        }
        Edges.is("a 12th and a 13th", Due.read(x, "near 3 at 0; near 3 at 0"), -1 - 13);
        Edges.is("neither came", x.many(1), 11);
        Edges.is("a 12th", Due.read(x, "near 3 at 0"), 1);
        Edges.is("its word, whatever follows", Due.read(x, " strict 9"), -1 - 1);
        Edges.is("another word is no better", Due.read(x, "  strikt"), -1 - 2);
        Edges.is("no 13th", Due.read(x, "bail 0 5;road 0 1"), 2);
        x = Edges.edge(POINT, "the WORD of a 13th TERM");
        String text = "";
        for (int term = 0; term < 13; term++) {
            text += (term > 0 ? ";" : "") + "near" + term / 5 + "at0";
        }
        Edges.is("all in one text", Due.read(x, text), -1 - 12 * 9);
        Edges.is("but the 13th", Due.read(x, text.substring(0, 12 * 9 - 1)), 12);
    }

    private static void faultOfFifthPerson() {
        ReleaseTerms x = Edges.edge(POINT, "the NUMBER of a PERSON who has 5: its own)");
        for (int term = 0; term < 4; term++) {
            x.term(0, 2, 0);
        }
        Edges.is("a fifth and a sixth", Due.read(x, "near 2 at 0; near 2 at 0"), -1 - 18);
        Edges.is("neither came", x.many(1), 4);
        Edges.is("a fifth", Due.read(x, "near 2 at 0"), 1);
        Edges.is("a sixth, whatever follows", Due.read(x, "near  002 on 9"), -1 - 6);
        Edges.is("another person", Due.read(x, "near 1 at 0"), 1);
    }

    private static void faultOfEnd() {
        Edges.edge(POINT, "or how many bytes there are if it ends too early.");
        fault("", 0);
        fault("    ", 4);
        fault("road", 4);
        fault("road 0", 6);
        fault("road 0  ", 8);
        fault("road 0 1;", 9);
        fault("road 0 1; ", 10);
        fault("bail", 4);
        fault("bail 0 ", 7);
        fault("term", 4);
        fault("term 0", 6);
        fault("term 0 at", 9);
        fault("term 0 at 0 hours", 17);
        fault("term 0 at 0 hours 0", 19);
        fault("term 0 at 0 days", 16);
        fault("term 0 at 0 days 0 ", 19);
    }

    private static void draws() {
        ReleaseTerms x = Edges.edge(POINT, "DRAWS: z is told (1 at first); each makes it z * 1103515245 + 12345 "
                + "(an int), and gives z >>> 8.");
        Edges.is("z at first", x.many(5), 1);
        x.drift(0, 0, 1);
        // 1 * 1103515245 + 12345 is 1103527590, which by 256 is 4310654.
        Edges.is("the first draw's rest by 8", x.seenOf(0, 1), 4310654 % 8);
        Edges.is("z behind two draws", x.many(5), (int) (1103527590L * 1103515245L + 12345L));
        x.seed(-1);
        x.drift(0, 0, 1);
        int one = (int) (-1L * 1103515245L + 12345L);
        int other = (int) (one * 1103515245L + 12345L);
        Edges.is("z below 0", one < 0 ? 1 : 0, 1);
        Edges.is("has no sign as a draw", x.seenOf(1, 1), (int) ((one & 0xffffffffL) / 256 % 8));
        Edges.is("nor has the hour", x.seenOf(1, 3), (int) ((other & 0xffffffffL) / 256 % 24));
    }

    private static void spotsAndSheets() {
        ReleaseTerms x = Edges.edge(POINT, "SPOTS 0 to 9 hold a TERM or nothing (at first).");
        for (int spot = 0; spot < 10; spot++) {
            Edges.is("nothing at first", x.as(spot, 0), Due.MISSING);
        }
        x.term(0, 0, 0);
        for (int spot = 0; spot < 10; spot++) {
            Edges.is("nothing, though there is a term", x.as(spot, 0), Due.MISSING);
        }
        Edges.within(x, "hold", 0, 9, (o, v) -> o.hold(v, 0));
        Edges.within(x, "as", 0, 9, (o, v) -> o.as(v, 0));
        x = Edges.edge(POINT, "SHEETS 0 to 3: rows of at most 40 numbers of 8, 16 or 32 bits, or MISSING (at first).");
        for (int s = 0; s < 4; s++) {
            Edges.is("missing at first", x.write(s, 0, 0), Due.MISSING);
        }
        Edges.within(x, "sheet", 0, 3, (o, v) -> o.sheet(v, 8, 40));
        Edges.within(x, "write", 0, 3, (o, v) -> o.write(v, 39, 0));
        Edges.within(x, "copy: the first", 0, 3, (o, v) -> o.copy(v, 0, 0, 0, 40));
        Edges.within(x, "copy: the second", 0, 3, (o, v) -> o.copy(0, 0, v, 0, 40));
        Edges.within(x, "load", 0, 3, (o, v) -> o.load(v, 0, 0));
        Edges.within(x, "judge", 0, 3, (o, v) -> o.judge(v, 0, 0));
        int[] bits = {8, 16, 32};
        for (int b : bits) {
            Edges.is("40 of " + b, x.sheet(0, b, 40), 40);
            Edges.is("41 of " + b, x.sheet(0, b, 41), Due.BEYOND);
        }
        Edges.isBeyond(x, "bits", (o, v) -> o.sheet(0, v, 1), -8, -1, 1, 4, 7, 9, 15, 17, 24, 31, 33, 64,
                Integer.MIN_VALUE, Integer.MAX_VALUE);
    }
}
