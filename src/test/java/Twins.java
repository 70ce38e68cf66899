import java.util.Arrays;

/** A ReleaseTerms and a PlainModel that are asked the same, answer by answer. */
final class Twins {
    private final String name;
    private final ReleaseTerms x = new ReleaseTerms();
    private final PlainModel model = new PlainModel();

    Twins(String name) {
        this.name = name;
    }

    int ask(String call, int... a) {
        int got = answer(call, a);
        Due.due(name + ": " + call + Arrays.toString(a), got, model.answer(call, a));
        return got;
    }

    private int answer(String call, int[] a) {
        return switch (call) {
            case "road" -> x.road(a[0], a[1], a[2] != 0);
            case "roads" -> x.roads(a[0]);
            case "far" -> x.far(a[0], a[1]);
            case "seen" -> x.seen(a[0], a[1], a[2]);
            case "seenOf" -> x.seenOf(a[0], a[1]);
            case "where" -> x.where(a[0], a[1]);
            case "could" -> x.could(a[0], a[1]);
            case "drift" -> x.drift(a[0], a[1], a[2]);
            case "term" -> x.term(a[0], a[1], a[2]);
            case "termOf" -> x.termOf(a[0], a[1]);
            case "span" -> x.span(a[0], a[1], a[2], a[3]);
            case "turn" -> x.turn(a[0], a[1]);
            case "change" -> x.change(a[0], a[1], a[2]);
            case "bad" -> x.bad(a[0]);
            case "inForce" -> x.inForce(a[0], a[1]);
            case "kept" -> x.kept(a[0], a[1]);
            case "count" -> x.count(a[0], a[1], a[2], a[3]);
            case "breach" -> x.breach(a[0], a[1]);
            case "way" -> x.way(a[0], a[1]);
            case "at" -> x.at(a[0]);
            case "may" -> x.may(a[0], a[1]);
            case "ways" -> x.ways(a[0], a[1]);
            case "bars" -> x.bars(a[0], a[1]);
            default -> answerMore(call, a);
        };
    }

    private int answerMore(String call, int[] a) {
        return switch (call) {
            case "risk" -> x.risk(a[0], a[1], a[2], a[3]);
            case "strict" -> x.strict(a[0], a[1], a[2]);
            case "surety" -> x.surety(a[0], a[1], a[2]);
            case "bail" -> x.bail(a[0], a[1]);
            case "call" -> x.call(a[0]);
            case "back" -> x.back(a[0]);
            case "suretyOf" -> x.suretyOf(a[0], a[1]);
            case "hearing" -> x.hearing(a[0], a[1]);
            case "heard" -> x.heard(a[0]);
            case "seed" -> x.seed(a[0]);
            case "feed" -> x.feed(a[0], a[1]);
            case "wipe" -> x.wipe();
            case "text" -> x.text();
            case "hold" -> x.hold(a[0], a[1]);
            case "as" -> x.as(a[0], a[1]);
            case "sheet" -> x.sheet(a[0], a[1], a[2]);
            case "write" -> x.write(a[0], a[1], a[2]);
            case "copy" -> x.copy(a[0], a[1], a[2], a[3], a[4]);
            case "load" -> x.load(a[0], a[1], a[2]);
            case "judge" -> x.judge(a[0], a[1], a[2]);
            case "image" -> x.image();
            case "undo" -> x.undo();
            case "tear" -> x.tear();
            case "many" -> x.many(a[0]);
            case "status" -> x.status(a[0]);
            default -> throw new IllegalStateException(call);
        };
    }
}
