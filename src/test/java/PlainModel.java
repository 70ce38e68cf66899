import java.math.BigInteger;
import java.util.ArrayList;
import java.util.HashMap;
import java.util.LinkedHashMap;
import java.util.List;
import java.util.Map;
import java.util.TreeSet;
import java.util.regex.Matcher;
import java.util.regex.Pattern;

/**
 * The document written a second time, as plainly as can be and with other means than the class: objects, maps and
 * texts, every WAY followed from HOUR 0 on. Random runs are compared with it.
 */
final class PlainModel {
    private static final String[] KINDS = {"term", "barred", "report", "counted", "near", "weekly", "strict"};

    /** A finding on its way out of a call. */
    private static final class Finding extends RuntimeException {
        private static final long serialVersionUID = 1L;
        final int which;

        Finding(int which) {
            super(null, null, false, false);
            this.which = which;
        }
    }

    record Sighting(int person, int place, int day, int hour) {
    }

    record Term(int kind, int person, int place, int h1, int h2, int d1, int d2) {
        boolean inForce(int day) {
            return d1 <= day && day <= d2 && !(kind == 5 && (day % 7 == 5 || day % 7 == 6));
        }

        int asked() {
            return kind == 2 ? 1 : kind == 3 ? 2 : kind == 6 ? 3 : 0;
        }

        boolean hasHour(int hour) {
            return h1 <= hour && hour <= h2;
        }
    }

    /** All that an image keeps. */
    private static final class State {
        TreeSet<String> roads = new TreeSet<>();
        List<Sighting> sightings = new ArrayList<>();
        List<Term> terms = new ArrayList<>();
        int[] room = new int[5];
        int[] backs = new int[5];
        int[][] given = new int[5][6];
        int[] bail = new int[6];
        Map<Integer, Integer> hearings = new HashMap<>();
        Map<Integer, Integer> spots = new HashMap<>();
        int z = 1;

        State twin() {
            State t = new State();
            t.roads.addAll(roads);
            t.sightings.addAll(sightings);
            t.terms.addAll(terms);
            t.room = room.clone();
            t.backs = backs.clone();
            for (int s = 0; s < 5; s++) {
                t.given[s] = given[s].clone();
            }
            t.bail = bail.clone();
            t.hearings.putAll(hearings);
            t.spots.putAll(spots);
            t.z = z;
            return t;
        }
    }

    private State now = new State();
    private State image = null;
    private final StringBuilder tape = new StringBuilder();
    private final int[][] sheets = new int[4][];
    private final int[] bits = new int[4];
    private String told = null;
    private final int[] found = new int[7];

    /** Answers a call by its name; booleans are 0 or 1. */
    int answer(String call, int... a) {
        try {
            return act(call, a);
        } catch (Finding f) {
            found[f.which]++;
            return -1000001 - f.which;
        }
    }

    private int act(String call, int[] a) {
        return switch (call) {
            case "road" -> road(a[0], a[1], a[2] != 0);
            case "roads" -> roads(a[0]);
            case "far" -> far(a[0], a[1]);
            case "seen" -> seen(a[0], a[1], a[2]);
            case "seenOf" -> seenOf(a[0], a[1]);
            case "where" -> where(a[0], a[1]);
            case "could" -> could(a[0], a[1]);
            case "drift" -> drift(a[0], a[1], a[2]);
            case "term" -> term(a[0], a[1], a[2]);
            case "termOf" -> termOf(a[0], a[1]);
            case "span" -> span(a[0], a[1], a[2], a[3]);
            case "turn" -> turn(a[0], a[1]);
            case "change" -> change(a[0], a[1], a[2]);
            case "bad" -> bad(a[0]);
            case "inForce" -> inForce(a[0], a[1]);
            case "kept" -> kept(a[0], a[1]);
            case "count" -> count(a[0], a[1], a[2], a[3]);
            case "breach" -> breach(a[0], a[1]);
            case "way" -> way(a[0], a[1]);
            case "at" -> at(a[0]);
            case "may" -> may(a[0], a[1]);
            case "ways" -> ways(a[0], a[1]);
            case "bars" -> bars(a[0], a[1]);
            default -> actMore(call, a);
        };
    }

    private int actMore(String call, int[] a) {
        return switch (call) {
            case "risk" -> risk(a[0], a[1], a[2], a[3]);
            case "strict" -> strict(a[0], a[1], a[2]);
            case "surety" -> surety(a[0], a[1], a[2]);
            case "bail" -> bail(a[0], a[1]);
            case "call" -> call(a[0]);
            case "back" -> back(a[0]);
            case "suretyOf" -> suretyOf(a[0], a[1]);
            case "hearing" -> hearing(a[0], a[1]);
            case "heard" -> heard(a[0]);
            case "seed" -> seed(a[0]);
            case "feed" -> feed(a[0], a[1]);
            case "wipe" -> wipe();
            case "text" -> text();
            case "hold" -> hold(a[0], a[1]);
            case "as" -> as(a[0], a[1]);
            case "sheet" -> sheet(a[0], a[1], a[2]);
            case "write" -> write(a[0], a[1], a[2]);
            case "copy" -> copy(a[0], a[1], a[2], a[3], a[4]);
            case "load" -> load(a[0], a[1], a[2]);
            case "judge" -> judge(a[0], a[1], a[2]);
            case "image" -> image();
            case "undo" -> undo();
            case "tear" -> tear();
            case "many" -> many(a[0]);
            case "status" -> status(a[0]);
            default -> throw new IllegalStateException(call);
        };
    }

    private static void need(boolean is, int otherwise) {
        if (!is) {
            throw new Finding(otherwise);
        }
    }

    private static void within(int v, int least, int most) {
        need(least <= v && v <= most, 0);
    }

    private static void isWhen(int when) {
        within(when, 0, 2923);
        within(when % 100, 0, 23);
    }

    // ---- places, sightings

    private boolean joined(int one, int other) {
        return now.roads.contains(Math.min(one, other) + "-" + Math.max(one, other));
    }

    private int road(int one, int other, boolean is) {
        within(one, 0, 7);
        within(other, 0, 7);
        need(one != other, 0);
        String name = Math.min(one, other) + "-" + Math.max(one, other);
        boolean was = is ? !now.roads.add(name) : now.roads.remove(name);
        return was ? 1 : 0;
    }

    private int roads(int place) {
        within(place, 0, 7);
        int set = 0;
        for (int p = 0; p < 8; p++) {
            set += joined(place, p) ? 1 << p : 0;
        }
        return set;
    }

    private int far(int from, int to) {
        within(from, 0, 7);
        within(to, 0, 7);
        int[][] d = new int[8][8];
        for (int i = 0; i < 8; i++) {
            for (int j = 0; j < 8; j++) {
                d[i][j] = i == j ? 0 : joined(i, j) ? 1 : 1000;
            }
        }
        for (int k = 0; k < 8; k++) {
            for (int i = 0; i < 8; i++) {
                for (int j = 0; j < 8; j++) {
                    d[i][j] = Math.min(d[i][j], d[i][k] + d[k][j]);
                }
            }
        }
        need(d[from][to] < 1000, 3);
        return d[from][to];
    }

    private int seen(int person, int place, int when) {
        within(person, 0, 5);
        within(place, 0, 7);
        isWhen(when);
        need(now.sightings.size() < 60, 1);
        now.sightings.add(new Sighting(person, place, when / 100, when % 100));
        return now.sightings.size() - 1;
    }

    private int seenOf(int sighting, int what) {
        within(sighting, 0, now.sightings.size() - 1);
        within(what, 0, 4);
        Sighting s = now.sightings.get(sighting);
        boolean counts = true;
        for (Sighting later : now.sightings.subList(sighting + 1, now.sightings.size())) {
            counts &= !(later.person == s.person && later.day == s.day && later.hour == s.hour);
        }
        return new int[] {s.person, s.place, s.day, s.hour, counts ? 1 : 0}[what];
    }

    private int placeSeen(int person, int day, int hour) {
        int place = -1;
        for (Sighting s : now.sightings) {
            if (s.person == person && s.day == day && s.hour == hour) {
                place = s.place;
            }
        }
        return place;
    }

    private int where(int person, int when) {
        within(person, 0, 5);
        isWhen(when);
        int place = placeSeen(person, when / 100, when % 100);
        need(place >= 0, 3);
        return place;
    }

    private int could(int person, int when) {
        within(person, 0, 5);
        isWhen(when);
        return placesThen(person, when, List.of());
    }

    /** Asks for each PLACE whether there is a WAY that is there then. */
    private int placesThen(int person, int when, List<Term> obeyed) {
        int set = 0;
        for (int place = 0; place < 8; place++) {
            set += follow(person, when / 100, obeyed, when % 100, place).many.signum() << place;
        }
        return set;
    }

    private int draw() {
        now.z = now.z * 1103515245 + 12345;
        return now.z >>> 8;
    }

    private int drift(int person, int day, int n) {
        within(person, 0, 5);
        within(day, 0, 29);
        within(n, 1, 20);
        for (int i = 0; i < n; i++) {
            if (now.sightings.size() < 60) {
                int place = draw() % 8;
                now.sightings.add(new Sighting(person, place, day, draw() % 24));
            }
        }
        return now.sightings.size();
    }

    // ---- terms

    private Term get(int term) {
        within(term, 0, now.terms.size() - 1);
        return now.terms.get(term);
    }

    private int add(Term t) {
        int own = 0;
        for (Term other : now.terms) {
            own += other.person == t.person ? 1 : 0;
        }
        need(own < 5 && now.terms.size() < 12, 1);
        now.terms.add(t);
        return now.terms.size() - 1;
    }

    private int term(int kind, int person, int place) {
        within(kind, 0, 6);
        within(person, 0, 5);
        within(place, 0, 7);
        return add(new Term(kind, person, place, 0, 23, 0, 29));
    }

    private int termOf(int term, int what) {
        Term t = get(term);
        within(what, 0, 7);
        return new int[] {t.kind, t.person, t.place, t.h1, t.h2, t.d1, t.d2, t.asked()}[what];
    }

    private int span(int term, int what, int from, int to) {
        Term t = get(term);
        within(what, 0, 1);
        within(to, 0, what == 0 ? 23 : 29);
        within(from, 0, to);
        now.terms.set(term, what == 0 ? new Term(t.kind, t.person, t.place, from, to, t.d1, t.d2)
                : new Term(t.kind, t.person, t.place, t.h1, t.h2, from, to));
        return 1;
    }

    private int turn(int term, int kind) {
        Term t = get(term);
        within(kind, 0, 6);
        now.terms.set(term, new Term(kind, t.person, t.place, t.h1, t.h2, t.d1, t.d2));
        return t.kind;
    }

    private int change(int term, int day, int place) {
        Term t = get(term);
        within(day, 1, 29);
        within(place, 0, 7);
        need(day > t.d1 && day <= t.d2, 4);
        int made = add(new Term(t.kind, t.person, place, t.h1, t.h2, day, t.d2));
        now.terms.set(term, new Term(t.kind, t.person, t.place, t.h1, t.h2, t.d1, day - 1));
        return made;
    }

    private boolean isBad(Term t, int place) {
        return switch (t.kind) {
            case 0, 5 -> place != t.place;
            case 1 -> place == t.place;
            case 4 -> place == t.place || joined(place, t.place);
            default -> false;
        };
    }

    private int bad(int term) {
        Term t = get(term);
        int set = 0;
        for (int p = 0; p < 8; p++) {
            set += isBad(t, p) ? 1 << p : 0;
        }
        return set;
    }

    private List<Term> binding(int person, int day) {
        List<Term> list = new ArrayList<>();
        for (Term t : now.terms) {
            if (t.person == person && t.inForce(day)) {
                list.add(t);
            }
        }
        return list;
    }

    private int inForce(int person, int day) {
        within(person, 0, 5);
        within(day, 0, 29);
        int set = 0;
        for (int i = 0; i < now.terms.size(); i++) {
            Term t = now.terms.get(i);
            set += t.person == person && t.inForce(day) ? 1 << i : 0;
        }
        return set;
    }

    private int verdict(Term t, int day) {
        BigInteger all = follow(t.person, day, List.of(), -1, -1).many;
        BigInteger keeping = follow(t.person, day, List.of(t), -1, -1).many;
        if (all.signum() == 0) {
            return 3;
        }
        return keeping.signum() == 0 ? 2 : keeping.equals(all) ? 0 : 1;
    }

    private int kept(int term, int day) {
        Term t = get(term);
        within(day, 0, 29);
        need(t.inForce(day), 3);
        return verdict(t, day);
    }

    private int count(int term, int from, int to, int what) {
        Term t = get(term);
        within(to, 0, 29);
        within(from, 0, to);
        within(what, 0, 3);
        int n = 0;
        for (int day = from; day <= to; day++) {
            n += t.inForce(day) && verdict(t, day) == what ? 1 : 0;
        }
        return n;
    }

    private int breach(int person, int day) {
        within(person, 0, 5);
        within(day, 0, 29);
        for (int d = day; d < 30; d++) {
            for (Term t : binding(person, d)) {
                if (verdict(t, d) == 2) {
                    return d;
                }
            }
        }
        throw new Finding(3);
    }

    // ---- ways

    /** How many WAYS there are, the least number of MOVES, and the first of these WAYS, as digits. */
    private static final class Ways {
        BigInteger many = BigInteger.ZERO;
        int moves = 1000;
        String first = "";

        void join(BigInteger more, int itsMoves, String its) {
            many = many.add(more);
            if (itsMoves < moves || itsMoves == moves && its.compareTo(first) < 0) {
                moves = itsMoves;
                first = its;
            }
        }
    }

    private Ways follow(int person, int day, List<Term> obeyed, int thenHour, int thenPlace) {
        Map<String, Ways> front = new LinkedHashMap<>();
        Ways none = new Ways();
        none.join(BigInteger.ONE, 0, "");
        front.put("0".repeat(obeyed.size()), none);
        for (int hour = 0; hour < 24; hour++) {
            Map<String, Ways> next = new LinkedHashMap<>();
            int seen = placeSeen(person, day, hour);
            for (int place = 0; place < 8; place++) {
                if (seen >= 0 && seen != place || hour == thenHour && place != thenPlace) {
                    continue;
                }
                step(front, next, obeyed, hour, place);
            }
            front = next;
        }
        Ways all = new Ways();
        front.forEach((key, ways) -> {
            boolean enough = true;
            for (int i = 0; i < obeyed.size(); i++) {
                enough &= key.charAt(i) - '0' >= obeyed.get(i).asked();
            }
            if (enough) {
                all.join(ways.many, ways.moves, ways.first);
            }
        });
        return all;
    }

    /** A key is how often one was where each TERM asks, up to 3, and behind these the PLACE, if there is one. */
    private void step(Map<String, Ways> front, Map<String, Ways> next, List<Term> obeyed, int hour, int place) {
        for (Term t : obeyed) {
            if (t.hasHour(hour) && isBad(t, place)) {
                return;
            }
        }
        front.forEach((key, ways) -> {
            int ahead = key.length() > obeyed.size() ? key.charAt(obeyed.size()) - '0' : place;
            if (ahead != place && !joined(ahead, place)) {
                return;
            }
            StringBuilder then = new StringBuilder();
            for (int i = 0; i < obeyed.size(); i++) {
                Term t = obeyed.get(i);
                int times = key.charAt(i) - '0';
                then.append(t.hasHour(hour) && t.place == place && t.asked() > 0 ? Math.min(times + 1, 3) : times);
            }
            then.append(place);
            next.computeIfAbsent(then.toString(), k -> new Ways())
                    .join(ways.many, ways.moves + (ahead == place ? 0 : 1), ways.first + place);
        });
    }

    private Ways lawful(int person, int day) {
        within(person, 0, 5);
        within(day, 0, 29);
        return follow(person, day, binding(person, day), -1, -1);
    }

    private int way(int person, int day) {
        Ways ways = lawful(person, day);
        need(ways.many.signum() > 0, 3);
        told = ways.first;
        return ways.moves;
    }

    private int at(int hour) {
        within(hour, 0, 23);
        need(told != null, 3);
        return told.charAt(hour) - '0';
    }

    private int may(int person, int when) {
        within(person, 0, 5);
        isWhen(when);
        return placesThen(person, when, binding(person, when / 100));
    }

    private int ways(int person, int day) {
        return lawful(person, day).many.min(BigInteger.valueOf(1000000)).intValue();
    }

    private int bars(int person, int day) {
        need(lawful(person, day).many.signum() == 0, 3);
        for (int i = 0; i < now.terms.size(); i++) {
            List<Term> others = new ArrayList<>();
            for (int j = 0; j < now.terms.size(); j++) {
                Term t = now.terms.get(j);
                if (i != j && t.person == person && t.inForce(day)) {
                    others.add(t);
                }
            }
            if (follow(person, day, others, -1, -1).many.signum() > 0) {
                return i;
            }
        }
        throw new Finding(3);
    }

    // ---- boxes, sureties, hearings

    /** By DAYS one after another: ways[j] of 10 to the n have j false cries. */
    private static long riskAbove(int r, int n, int k) {
        long[] ways = {1};
        for (int day = 0; day < n; day++) {
            long[] next = new long[ways.length + 1];
            for (int j = 0; j < ways.length; j++) {
                next[j] += ways[j] * (10 - r);
                next[j + 1] += ways[j] * r;
            }
            ways = next;
        }
        long sum = 0;
        for (int j = k; j < ways.length; j++) {
            sum += ways[j];
        }
        return sum;
    }

    private int risk(int r, int n, int k, int part) {
        within(r, 0, 10);
        within(n, 1, 9);
        within(k, 0, 9);
        within(part, 0, 1);
        BigInteger above = BigInteger.valueOf(riskAbove(r, n, k));
        BigInteger below = BigInteger.TEN.pow(n);
        return (part == 0 ? above : below).divide(above.gcd(below)).intValueExact();
    }

    private int strict(int r, int n, int a) {
        within(r, 0, 10);
        within(n, 1, 9);
        within(a, 0, 100);
        for (int k = 1; k <= 9; k++) {
            if (riskAbove(r, n, k) * 100 <= a * BigInteger.TEN.pow(n).longValueExact()) {
                return k;
            }
        }
        throw new Finding(3);
    }

    private int givenFor(int person) {
        int sum = 0;
        for (int[] row : now.given) {
            sum += row[person];
        }
        return sum;
    }

    private int surety(int surety, int room, int persons) {
        within(surety, 0, 4);
        within(room, 0, 9999);
        within(persons, 0, 63);
        for (int v : now.given[surety]) {
            need(v == 0, 4);
        }
        now.room[surety] = room;
        now.backs[surety] = persons;
        return 1;
    }

    private int bail(int person, int v) {
        within(person, 0, 5);
        within(v, 0, 9999);
        need(givenFor(person) == 0, 4);
        int was = now.bail[person];
        now.bail[person] = v;
        return was;
    }

    private int call(int person) {
        within(person, 0, 5);
        need(givenFor(person) == 0, 4);
        int lacking = now.bail[person];
        for (int s = 0; s < 5; s++) {
            while (lacking > 0 && now.room[s] > 0 && (now.backs[s] >> person) % 2 == 1) {
                now.room[s]--;
                now.given[s][person]++;
                lacking--;
            }
        }
        return lacking;
    }

    private int back(int person) {
        within(person, 0, 5);
        int sum = givenFor(person);
        for (int s = 0; s < 5; s++) {
            now.room[s] += now.given[s][person];
            now.given[s][person] = 0;
        }
        return sum;
    }

    private int suretyOf(int surety, int what) {
        within(surety, 0, 4);
        within(what, 0, 7);
        return what == 0 ? now.room[surety] : what == 1 ? now.backs[surety] : now.given[surety][what - 2];
    }

    private int hearing(int person, int day) {
        within(person, 0, 5);
        within(day, 0, 29);
        Map<Integer, Integer> others = new HashMap<>(now.hearings);
        others.remove(person);
        others.values().removeIf(d -> d != day);
        need(others.size() < 2, 1);
        now.hearings.put(person, day);
        return others.size() + 1;
    }

    private int heard(int person) {
        within(person, 0, 5);
        need(now.hearings.containsKey(person), 3);
        return now.hearings.get(person);
    }

    private int seed(int v) {
        int was = now.z;
        now.z = v;
        return was;
    }

    // ---- texts

    private int feed(int bytes, int n) {
        within(n, 1, 4);
        need(tape.length() + n <= 120, 1);
        for (int i = n; i > 0; i--) {
            tape.append((char) (bytes >> 8 * (i - 1) & 255));
        }
        return tape.length();
    }

    private int wipe() {
        int had = tape.length();
        tape.setLength(0);
        return had;
    }

    private record Token(int place, String text) {
    }

    /** A text being read: tokens with their places, and one empty token at the end. */
    private static final class Reading {
        final List<Token> tokens = new ArrayList<>();
        int next = 0;

        Reading(String text) {
            Matcher m = Pattern.compile("[a-z]+|[0-9]+|[^ ]").matcher(text);
            while (m.find()) {
                tokens.add(new Token(m.start(), m.group()));
            }
            tokens.add(new Token(text.length(), ""));
        }

        boolean is(String... wanted) {
            return List.of(wanted).contains(tokens.get(next).text);
        }

        String take(String... wanted) {
            if (!is(wanted)) {
                throw new Fault(tokens.get(next).place);
            }
            return tokens.get(next++).text;
        }

        int number(int least, int most) {
            String t = tokens.get(next).text;
            boolean is = t.matches("[0-9]+") && new BigInteger(t).compareTo(BigInteger.valueOf(least)) >= 0
                    && new BigInteger(t).compareTo(BigInteger.valueOf(most)) <= 0;
            if (!is) {
                throw new Fault(tokens.get(next).place);
            }
            next++;
            return Integer.parseInt(t);
        }

        int placeOfLatest() {
            return tokens.get(next - 1).place;
        }
    }

    private static final class Fault extends RuntimeException {
        private static final long serialVersionUID = 1L;
        final int place;

        Fault(int place) {
            super(null, null, false, false);
            this.place = place;
        }
    }

    private int text() {
        String text = tape.toString();
        tape.setLength(0);
        State before = now.twin();
        try {
            Reading in = new Reading(text);
            int items = 1;
            item(in);
            while (!in.is("")) {
                in.take(";");
                item(in);
                items++;
            }
            return items;
        } catch (Fault f) {
            now = before;
            return -1 - f.place;
        }
    }

    private void item(Reading in) {
        if (in.is("road")) {
            in.take("road");
            int one = in.number(0, 7);
            int other = in.number(0, 7);
            if (one == other) {
                throw new Fault(in.placeOfLatest());
            }
            road(one, other, true);
        } else if (in.is("bail")) {
            in.take("bail");
            int person = in.number(0, 5);
            now.bail[person] = in.number(0, 9999);
        } else {
            termItem(in);
        }
    }

    private void termItem(Reading in) {
        int kind = List.of(KINDS).indexOf(in.take(KINDS));
        if (now.terms.size() == 12) {
            throw new Fault(in.placeOfLatest());
        }
        int person = in.number(0, 5);
        if (now.terms.stream().filter(t -> t.person == person).count() == 5) {
            throw new Fault(in.placeOfLatest());
        }
        in.take("at");
        int place = in.number(0, 7);
        int[] spans = {0, 23, 0, 29};
        if (in.is("hours")) {
            in.take("hours");
            spans[0] = in.number(0, 23);
            spans[1] = in.number(spans[0], 23);
        }
        if (in.is("days")) {
            in.take("days");
            spans[2] = in.number(0, 29);
            spans[3] = in.number(spans[2], 29);
        }
        now.terms.add(new Term(kind, person, place, spans[0], spans[1], spans[2], spans[3]));
    }

    // ---- spots, sheets

    private int hold(int spot, int term) {
        within(spot, 0, 9);
        within(term, -1, now.terms.size() - 1);
        if (term < 0) {
            now.spots.remove(spot);
        } else {
            now.spots.put(spot, term);
        }
        return 1;
    }

    private int as(int spot, int kind) {
        within(spot, 0, 9);
        within(kind, 0, 6);
        need(now.spots.containsKey(spot), 5);
        int term = now.spots.get(spot);
        String line = new String[] {"0", "10", "20", "320", "410", "50", "6320"}[now.terms.get(term).kind];
        need(line.contains("" + kind), 2);
        return term;
    }

    private int sheet(int s, int newBits, int n) {
        within(s, 0, 3);
        need(List.of(0, 8, 16, 32).contains(newBits), 0);
        need(n >= 0, 6);
        need(n <= 40, 0);
        bits[s] = newBits;
        sheets[s] = newBits == 0 ? null : new int[n];
        return newBits == 0 ? 0 : n;
    }

    private int[] there(int s) {
        within(s, 0, 3);
        need(sheets[s] != null, 5);
        return sheets[s];
    }

    private int write(int s, int i, int v) {
        int[] row = there(s);
        within(i, 0, row.length - 1);
        row[i] = v << 32 - bits[s] >> 32 - bits[s];
        return 1;
    }

    private int copy(int s, int from, int t, int to, int n) {
        within(s, 0, 3);
        within(t, 0, 3);
        int[] here = there(s);
        int[] other = there(t);
        need(bits[s] == bits[t], 2);
        need(from >= 0 && to >= 0 && n >= 0, 0);
        need((long) from + n <= here.length && (long) to + n <= other.length, 0);
        int[] were = here.clone();
        for (int i = 0; i < n; i++) {
            other[to + i] = were[from + i];
        }
        return n;
    }

    private int load(int s, int person, int day) {
        int[] row = there(s);
        within(person, 0, 5);
        within(day, 0, 29);
        int came = 0;
        for (int hour = 0; hour < row.length; hour++) {
            if (row[hour] < -1 || row[hour] > 7 || hour > 23) {
                break;
            }
            if (row[hour] >= 0) {
                if (now.sightings.size() == 60) {
                    break;
                }
                now.sightings.add(new Sighting(person, row[hour], day, hour));
                came++;
            }
        }
        return came;
    }

    private int judge(int s, int person, int day) {
        int[] row = there(s);
        within(person, 0, 5);
        within(day, 0, 29);
        List<Term> binding = binding(person, day);
        for (int hour = 0; hour < Math.min(24, row.length); hour++) {
            int p = row[hour];
            int seen = placeSeen(person, day, hour);
            boolean wrong = p < 0 || p > 7 || seen >= 0 && seen != p
                    || hour > 0 && row[hour - 1] != p && !joined(row[hour - 1], p);
            for (Term t : binding) {
                wrong |= t.hasHour(hour) && isBad(t, p);
            }
            if (wrong) {
                return 1 + hour;
            }
        }
        if (row.length != 24) {
            return 25;
        }
        for (Term t : binding) {
            int times = 0;
            for (int hour = t.h1; hour <= t.h2; hour++) {
                times += row[hour] == t.place ? 1 : 0;
            }
            if (times < t.asked()) {
                return 26 + indexOf(t);
            }
        }
        return 0;
    }

    /** Of TERMS that are alike in all the first is meant, as it has been found wanting first. */
    private int indexOf(Term t) {
        return now.terms.indexOf(t);
    }

    // ---- images

    private int image() {
        image = now.twin();
        return 1;
    }

    private int undo() {
        need(image != null, 3);
        now = image.twin();
        return now.terms.size();
    }

    private int tear() {
        int was = image == null ? 0 : 1;
        image = null;
        return was;
    }

    private int many(int what) {
        within(what, 0, 6);
        int room = 0;
        for (int v : now.room) {
            room += v;
        }
        return new int[] {now.sightings.size(), now.terms.size(), now.roads.size(), now.hearings.size(),
            tape.length(), now.z, room}[what];
    }

    private int status(int which) {
        within(which, -1, 6);
        int all = 0;
        for (int v : found) {
            all += v;
        }
        return which < 0 ? all : found[which];
    }
}
