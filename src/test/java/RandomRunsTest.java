import java.util.Random;

/** Random runs of 512 calls, each answer beside that of PlainModel; the same runs each time. */
public final class RandomRunsTest {
    private static final int RUNS = 300;
    private static final int CALLS = 512;

    private static final String[] NAMES = {"road", "roads", "far", "seen", "seenOf", "where", "could", "drift", "term",
        "termOf", "span", "turn", "change", "bad", "inForce", "kept", "count", "breach", "way", "at", "may", "ways",
        "bars", "risk", "strict", "surety", "bail", "call", "back", "suretyOf", "hearing", "heard", "seed", "feed",
        "wipe", "text", "hold", "as", "sheet", "write", "copy", "load", "judge", "image", "undo", "tear", "many",
        "status"};

    private static final String[] WORDS = {"road", "term", "barred", "report", "counted", "near", "weekly", "strict",
        "bail", "at", "hours", "days", ";", "x", "-"};

    private final Random random;
    private final int days;
    private final Twins twins;
    private int sheetBits = 8;

    private RandomRunsTest(long seed) {
        random = new Random(seed);
        twins = new Twins("run " + seed);
        // On few days the sightings lie close together, on many there are days without.
        days = seed % 3 == 0 ? 1 : seed % 3 == 1 ? 3 : 30;
    }

    public static void main(String[] args) {
        for (int run = 0; run < RUNS; run++) {
            new RandomRunsTest(run).go(run);
        }
        Due.end("RandomRunsTest");
    }

    private void go(int run) {
        int roads = run % 13;
        for (int i = 0; i < roads; i++) {
            twins.ask("road", below(8), below(8), 1);
        }
        for (int i = roads; i < CALLS; i++) {
            String call = NAMES[below(NAMES.length)];
            if (call.equals("text") && below(3) > 0) {
                i += putText();
            }
            if ((call.equals("judge") || call.equals("load")) && below(2) > 0) {
                i += putWay();
            }
            twins.ask(call, arguments(call));
        }
    }

    private int below(int n) {
        return random.nextInt(n);
    }

    /** Mostly from the first to the last, at times beside it or far away. */
    private int near(int least, int most) {
        return switch (below(40)) {
            case 0 -> least - 1;
            case 1 -> most + 1;
            case 2 -> Due.FAR_OUT[below(Due.FAR_OUT.length)];
            case 3 -> random.nextInt();
            default -> least + below(Math.max(1, most - least + 1));
        };
    }

    private int person() {
        return below(3) > 0 ? near(0, 1) : near(0, 5);
    }

    private int place() {
        return near(0, 7);
    }

    private int day() {
        return below(8) > 0 ? below(days) : near(0, 29);
    }

    private int when() {
        return below(30) == 0 ? near(0, 3000) : 100 * day() + near(0, 23);
    }

    private int term() {
        return near(0, Math.max(0, twins.ask("many", 1) - 1));
    }

    private int[] arguments(String call) {
        return switch (call) {
            case "road" -> new int[] {place(), place(), below(3) > 0 ? 1 : 0};
            case "roads" -> new int[] {place()};
            case "far" -> new int[] {place(), place()};
            case "seen" -> new int[] {person(), place(), when()};
            case "seenOf" -> new int[] {near(0, Math.max(0, twins.ask("many", 0) - 1)), near(0, 4)};
            case "where", "could", "may" -> new int[] {person(), when()};
            case "drift" -> new int[] {person(), day(), below(4) > 0 ? near(1, 3) : near(1, 20)};
            case "term" -> new int[] {near(0, 6), person(), place()};
            case "termOf" -> new int[] {term(), near(0, 7)};
            case "span" -> span();
            case "turn" -> new int[] {term(), near(0, 6)};
            case "change" -> new int[] {term(), near(1, 29), place()};
            case "bad" -> new int[] {term()};
            case "inForce", "breach", "way", "ways", "bars", "hearing" -> new int[] {person(), day()};
            case "kept" -> new int[] {term(), day()};
            case "count" -> new int[] {term(), near(0, 15), near(10, 29), near(0, 3)};
            case "at" -> new int[] {near(0, 23)};
            default -> argumentsMore(call);
        };
    }

    private int[] argumentsMore(String call) {
        return switch (call) {
            case "risk" -> new int[] {near(0, 10), near(1, 9), near(0, 9), near(0, 1)};
            case "strict" -> new int[] {near(0, 10), near(1, 9), near(0, 100)};
            case "surety" -> new int[] {near(0, 4), near(0, below(2) == 0 ? 100 : 9999), near(0, 63)};
            case "bail" -> new int[] {person(), near(0, below(2) == 0 ? 100 : 9999)};
            case "call", "back", "heard" -> new int[] {person()};
            case "suretyOf" -> new int[] {near(0, 4), near(0, 7)};
            case "seed" -> new int[] {random.nextInt()};
            case "feed" -> new int[] {random.nextInt(), near(1, 4)};
            case "hold" -> new int[] {near(0, 9), below(6) == 0 ? -1 : term()};
            case "as" -> new int[] {near(0, 9), near(0, 6)};
            case "sheet" -> new int[] {near(0, 3), below(12) == 0 ? near(0, 32) : 8 << below(3), near(0, 40)};
            case "write" -> new int[] {near(0, 3), near(0, 30), near(-1, 8)};
            case "copy" -> new int[] {near(0, 3), near(0, 20), near(0, 3), near(0, 20), near(0, 20)};
            case "load", "judge" -> new int[] {near(0, 3), person(), day()};
            case "many" -> new int[] {near(0, 6)};
            case "status" -> new int[] {near(-1, 6)};
            default -> new int[0];
        };
    }

    private int[] span() {
        int what = near(0, 1);
        int most = what == 0 ? 23 : 29;
        int from = near(0, most);
        return new int[] {term(), what, from, below(8) > 0 && from >= 0 && from <= most
            ? from + below(most - from + 1) : near(0, most)};
    }

    /** Puts items on the tape, most of them right, and answers how many calls it took. */
    private int putText() {
        StringBuilder text = new StringBuilder();
        int items = 1 + below(4);
        for (int i = 0; i < items; i++) {
            text.append(i > 0 ? ";" : "").append(" ".repeat(below(2))).append(item());
        }
        if (below(4) == 0) {
            text.insert(below(text.length() + 1), WORDS[below(WORDS.length)]);
        }
        if (below(6) == 0) {
            text.setLength(below(text.length() + 1));
        }
        int calls = 0;
        twins.ask("wipe");
        for (int i = 0; i < text.length(); i++) {
            twins.ask("feed", text.charAt(i), 1);
            calls += i % 4 == 0 ? 1 : 0;
        }
        return calls;
    }

    private String item() {
        int kind = below(9);
        if (kind == 0) {
            return "road " + below(8) + " " + below(9);
        }
        if (kind == 8) {
            return "bail " + below(7) + " " + below(10100);
        }
        int h = below(24);
        int d = below(30);
        return WORDS[kind] + below(6) + (below(20) == 0 ? " " : " at ") + below(8)
                + (below(2) == 0 ? "" : " hours " + h + " " + (h + below(24 - h)))
                + (below(2) == 0 ? "" : " days" + d + " " + (d + below(31 - d)));
    }

    /** Writes a way onto sheet 0 that is mostly lawful: the one that was told, or a walk by roads. */
    private int putWay() {
        sheetBits = sheetBits == 32 ? 8 : sheetBits * 2;
        twins.ask("sheet", 0, sheetBits, below(4) > 0 ? 24 : 20 + below(10));
        boolean asTold = below(2) == 0;
        int place = below(8);
        for (int hour = 0; hour < 24; hour++) {
            int next = below(8);
            if (below(30) == 0 || twins.ask("far", place, next) == 1) {
                place = next;
            }
            twins.ask("write", 0, hour, asTold ? Math.max(-1, twins.ask("at", hour)) : place);
        }
        return 2;
    }
}
