import java.util.Random;

/** Random days with roads, sightings and asking terms, all that is told of their ways beside PlainModel's. */
public final class RandomWaysTest {
    private static final int DAYS = 500;

    private final Random random;
    private final Twins twins;

    private RandomWaysTest(int seed) {
        random = new Random(seed);
        twins = new Twins("day " + seed);
    }

    public static void main(String[] args) {
        for (int seed = 0; seed < DAYS; seed++) {
            new RandomWaysTest(seed).go();
        }
        Due.end("RandomWaysTest");
    }

    private int below(int n) {
        return random.nextInt(n);
    }

    private void go() {
        for (int place = 1; place < 8; place++) {
            twins.ask("road", place, below(place), 1);
        }
        for (int i = below(4); i > 0; i--) {
            twins.ask("road", below(8), below(8), 1);
        }
        for (int i = below(5); i > 0; i--) {
            twins.ask("seen", 0, below(8), below(24));
        }
        int terms = 1 + below(5);
        for (int term = 0; term < terms; term++) {
            int[] kinds = {2, 2, 3, 3, 6, 6, 6, 1, 4, 0};
            int kind = kinds[below(kinds.length)];
            twins.ask("term", kind, 0, below(8));
            int first = below(24);
            twins.ask("span", term, 0, first, kind == 0 ? first : first + below(24 - first));
        }
        tellAll(terms);
        twins.ask("seen", 0, below(8), below(24));
        twins.ask("road", below(8), below(8), 0);
        tellAll(terms);
    }

    private void tellAll(int terms) {
        twins.ask("way", 0, 0);
        twins.ask("ways", 0, 0);
        twins.ask("bars", 0, 0);
        for (int hour = 0; hour < 24; hour++) {
            twins.ask("at", hour);
        }
        for (int i = 0; i < 3; i++) {
            int hour = below(24);
            twins.ask("may", 0, hour);
            twins.ask("could", 0, hour);
        }
        for (int term = 0; term < terms; term++) {
            twins.ask("kept", term, 0);
        }
    }
}
