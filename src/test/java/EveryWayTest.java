import java.util.ArrayList;
import java.util.Arrays;
import java.util.List;
import java.util.Random;

/**
 * Promises 8, 17, 20 to 24 and 44 by the definitions' own words: on random days with so many sightings that all WAYS
 * can be written down one by one, each of them is asked whether it keeps each TERM; the same days each time.
 */
public final class EveryWayTest {
    private static final int DAYS = 1500;
    private static final int MOST_WAYS = 5000;
    private static final int DAY = 11;

    private final Random random;
    private final String name;
    private final ReleaseTerms x = new ReleaseTerms();
    private final boolean[][] road = new boolean[8][8];
    private final int[] seen = new int[24];
    /** Of each TERM its KIND, PLACE, first and last HOUR. */
    private final List<int[]> terms = new ArrayList<>();
    private final List<int[]> ways = new ArrayList<>();

    private EveryWayTest(int seed) {
        random = new Random(seed);
        name = "day " + seed + ": ";
    }

    public static void main(String[] args) {
        int lawfulDays = 0;
        int lawlessDays = 0;
        for (int seed = 0; seed < DAYS; seed++) {
            EveryWayTest test = new EveryWayTest(seed);
            test.makeDay();
            test.write(new int[24], 0);
            if (test.ways.size() <= MOST_WAYS) {
                boolean some = test.tellAll();
                lawfulDays += some ? 1 : 0;
                lawlessDays += some ? 0 : 1;
            }
        }
        Due.due("there were enough days with a lawful way", lawfulDays > 50 ? 1 : 0, 1);
        Due.due("there were enough days without", lawlessDays > 50 ? 1 : 0, 1);
        Due.end("EveryWayTest");
    }

    private int below(int n) {
        return random.nextInt(n);
    }

    private void due(String call, int got, int want) {
        Due.due(name + call, got, want);
    }

    private void makeDay() {
        for (int i = 2 + below(8); i > 0; i--) {
            int one = below(8);
            int other = below(8);
            if (one != other) {
                x.road(one, other, true);
                road[one][other] = true;
                road[other][one] = true;
            }
        }
        makeSightings();
        for (int term = below(6); term > 0; term--) {
            int kind = below(7);
            int first = below(2) == 0 ? below(6) : below(24);
            // A TERM or a WEEKLY one of many hours leaves no way nearly always.
            boolean isShort = kind == 0 || kind == 5 || below(2) == 0;
            int last = first + below(isShort ? Math.min(5, 24 - first) : 24 - first);
            int[] t = {kind, below(3) == 0 ? below(8) : seenSomewhere(), first, last};
            x.term(kind, 2, t[1]);
            x.span(terms.size(), 0, first, last);
            terms.add(t);
        }
    }

    /** Sightings along a walk, so that there are ways, but for one place at times that may be out of reach. */
    private void makeSightings() {
        Arrays.fill(seen, -1);
        int place = below(8);
        // Gaps here and there, or one long one at the begin, where ways of as few moves can differ.
        int free = below(2) * 6;
        int gaps = free > 0 ? 0 : 1 + below(6);
        for (int hour = 0; hour < 24; hour++) {
            int next = below(8);
            place = road[place][next] ? next : place;
            if (hour >= free && below(9) >= gaps) {
                sight(place, hour);
            }
        }
        if (below(6) == 0) {
            sight(below(8), below(24));
        }
    }

    private void sight(int place, int hour) {
        x.seen(2, place, 100 * DAY + hour);
        seen[hour] = place;
    }

    private int seenSomewhere() {
        return Math.max(0, seen[below(24)]);
    }

    /** Writes down every WAY that begins with the places of the hours ahead. */
    private void write(int[] way, int hour) {
        if (ways.size() > MOST_WAYS) {
            return;
        }
        if (hour == 24) {
            ways.add(way.clone());
            return;
        }
        for (int place = 0; place < 8; place++) {
            boolean isSeenElsewhere = seen[hour] >= 0 && seen[hour] != place;
            boolean isReached = hour == 0 || way[hour - 1] == place || road[way[hour - 1]][place];
            if (!isSeenElsewhere && isReached) {
                way[hour] = place;
                write(way, hour + 1);
            }
        }
    }

    private boolean isBad(int[] term, int place) {
        return switch (term[0]) {
            case 0, 5 -> place != term[1];
            case 1 -> place == term[1];
            case 4 -> place == term[1] || road[term[1]][place];
            default -> false;
        };
    }

    /** DAY 11 is in force for WEEKLY ones also: its rest by 7 is 4. */
    private boolean keeps(int[] way, int[] term) {
        int there = 0;
        for (int hour = term[2]; hour <= term[3]; hour++) {
            if (isBad(term, way[hour])) {
                return false;
            }
            there += way[hour] == term[1] ? 1 : 0;
        }
        return there >= new int[] {0, 0, 1, 2, 0, 0, 3}[term[0]];
    }

    private boolean keepsAllBut(int[] way, int left) {
        for (int term = 0; term < terms.size(); term++) {
            if (term != left && !keeps(way, terms.get(term))) {
                return false;
            }
        }
        return true;
    }

    private List<int[]> lawfulBut(int left) {
        return ways.stream().filter(way -> keepsAllBut(way, left)).toList();
    }

    private static int moves(int[] way) {
        int moves = 0;
        for (int hour = 1; hour < 24; hour++) {
            moves += way[hour] == way[hour - 1] ? 0 : 1;
        }
        return moves;
    }

    private static int places(List<int[]> some, int hour) {
        int set = 0;
        for (int[] way : some) {
            set |= 1 << way[hour];
        }
        return set;
    }

    private boolean tellAll() {
        List<int[]> lawful = lawfulBut(-1);
        due("ways", x.ways(2, DAY), lawful.size());
        for (int hour = 0; hour < 24; hour++) {
            due("could " + hour, x.could(2, 100 * DAY + hour), places(ways, hour));
            due("may " + hour, x.may(2, 100 * DAY + hour), places(lawful, hour));
        }
        for (int term = 0; term < terms.size(); term++) {
            due("kept " + term, x.kept(term, DAY), verdict(terms.get(term)));
        }
        due("bars", x.bars(2, DAY), bars(lawful));
        tellBest(lawful);
        for (int i = 0; i < 10 && !ways.isEmpty(); i++) {
            judge(ways.get(below(ways.size())).clone());
        }
        return !lawful.isEmpty();
    }

    private int verdict(int[] term) {
        long keeping = ways.stream().filter(way -> keeps(way, term)).count();
        if (ways.isEmpty()) {
            return 3;
        }
        return keeping == ways.size() ? 0 : keeping == 0 ? 2 : 1;
    }

    private int bars(List<int[]> lawful) {
        for (int term = 0; lawful.isEmpty() && term < terms.size(); term++) {
            if (!lawfulBut(term).isEmpty()) {
                return term;
            }
        }
        return Due.NONE;
    }

    /** They were written down in the order of their places, so the first of the fewest moves is THE WAY. */
    private void tellBest(List<int[]> lawful) {
        int[] best = null;
        for (int[] way : lawful) {
            best = best == null || moves(way) < moves(best) ? way : best;
        }
        due("way", x.way(2, DAY), best == null ? Due.NONE : moves(best));
        for (int hour = 0; hour < 24; hour++) {
            due("at " + hour, x.at(hour), best == null ? Due.NONE : best[hour]);
        }
    }

    private void judge(int[] way) {
        if (below(2) == 0) {
            way[below(24)] = below(10) - 1;
        }
        x.sheet(1, 8 << below(3), 24);
        for (int hour = 0; hour < 24; hour++) {
            x.write(1, hour, way[hour]);
        }
        due("judge", x.judge(1, 2, DAY), judgement(way));
    }

    private int judgement(int[] way) {
        for (int hour = 0; hour < 24; hour++) {
            int place = way[hour];
            if (place < 0 || place > 7 || seen[hour] >= 0 && seen[hour] != place) {
                return 1 + hour;
            }
            if (hour > 0 && way[hour - 1] != place && !road[way[hour - 1]][place]) {
                return 1 + hour;
            }
            for (int[] term : terms) {
                if (term[2] <= hour && hour <= term[3] && isBad(term, place)) {
                    return 1 + hour;
                }
            }
        }
        for (int term = 0; term < terms.size(); term++) {
            if (!keeps(way, terms.get(term))) {
                return 26 + term;
            }
        }
        return 0;
    }
}
