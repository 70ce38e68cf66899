import java.lang.reflect.Method;
import java.util.Arrays;
import java.util.Comparator;

/**
 * No call ever throws: every call of the face with the least, greatest and neighbouring numbers in each argument, all
 * of them together, in several states; each answer beside that of PlainModel.
 */
public final class ExtremesTest {
    private static final int MIN = Integer.MIN_VALUE;
    private static final int MAX = Integer.MAX_VALUE;

    /** By how many arguments a call has: fewer numbers where more are put together. */
    private static final int[][] NUMBERS = {
        {},
        {MIN, MIN + 1, -1000001, -256, -3, -2, -1, 0, 1, 5, 6, 7, 8, 9, 10, 12, 23, 24, 32, 255, 2923, 2924, 3000, MAX - 1,
            MAX},
        {MIN, -100, -2, -1, 0, 1, 3, 5, 6, 7, 8, 11, 12, 23, 24, 29, 30, 2923, 2924, MAX},
        {MIN, -2, -1, 0, 1, 5, 8, 29, 40, 41, MAX},
        {MIN, -1, 0, 1, 9, 23, 29, MAX},
        {MIN, -1, 0, 1, 3, 24, MAX},
    };
    private static final int CALLS_OF_ONE = 400;

    private Twins twins;
    private int calls;
    private final int state;

    private ExtremesTest(int state) {
        this.state = state;
    }

    public static void main(String[] args) {
        for (int state = 0; state < 3; state++) {
            new ExtremesTest(state).go();
        }
        Due.end("ExtremesTest");
    }

    private void go() {
        Method[] face = Arrays.stream(ReleaseTerms.class.getMethods())
                .filter(m -> m.getDeclaringClass() == ReleaseTerms.class)
                .sorted(Comparator.comparing(Method::getName)).toArray(Method[]::new);
        Due.due("calls of the face", face.length, 48);
        renew();
        for (Method m : face) {
            ask(m.getName(), new int[m.getParameterCount()], 0);
        }
    }

    private void ask(String call, int[] arguments, int next) {
        if (next == arguments.length) {
            twins.ask(call, arguments);
            calls++;
            if (calls == CALLS_OF_ONE) {
                renew();
            }
            return;
        }
        for (int v : NUMBERS[arguments.length]) {
            arguments[next] = v;
            ask(call, arguments, next + 1);
        }
    }

    /** State 0 is a new object, 1 has something of everything, 2 has no room left. */
    private void renew() {
        calls = 0;
        twins = new Twins("state " + state);
        if (state == 0) {
            return;
        }
        for (int place = 0; place < 7; place++) {
            twins.ask("road", place, place + 1, 1);
        }
        twins.ask("seen", 0, 1, 5);
        twins.ask("term", 6, 0, 1);
        twins.ask("term", 4, 1, 3);
        twins.ask("hold", 1, 1);
        twins.ask("surety", 1, 9, 3);
        twins.ask("bail", 1, 5);
        twins.ask("call", 1);
        twins.ask("way", 0, 0);
        twins.ask("sheet", 0, 8, 40);
        twins.ask("sheet", 1, 8, 24);
        twins.ask("sheet", 3, 32, 0);
        twins.ask("image");
        if (state == 2) {
            fill();
        }
    }

    private void fill() {
        for (int i = 0; i < 3; i++) {
            twins.ask("drift", 0, 0, 20);
        }
        for (int term = 0; term < 10; term++) {
            twins.ask("term", 6, term % 3, term % 8);
        }
        for (int i = 0; i < 30; i++) {
            twins.ask("feed", 0x20202020, 4);
        }
        twins.ask("hearing", 0, 5);
        twins.ask("hearing", 1, 5);
    }
}
