/** Terms of release of people freed till trial; ../shared/DOC.md says what each call promises. */
public final class ReleaseTerms {
    private static final int LOW = -1000001;

    // The findings, by how far each lies below LOW.
    private static final int BEYOND = 0;
    private static final int FULL = 1;
    private static final int KIND = 2;
    private static final int NONE = 3;
    private static final int STATE = 4;
    private static final int MISSING = 5;
    private static final int SIZE = 6;
    private static final int FINDINGS = 7;

    private static final int PLACES = 8;
    private static final int ALL_PLACES = 255;
    private static final int PERSONS = 6;
    private static final int DAYS = 30;
    private static final int HOURS = 24;
    private static final int SURETIES = 5;
    private static final int SPOTS = 10;
    private static final int MOST_SIGHTINGS = 60;
    private static final int MOST_TERMS = 12;
    private static final int MOST_TERMS_OF_ONE = 5;
    private static final int MOST_MONEY = 9999;
    private static final int MOST_HEARINGS_A_DAY = 2;
    private static final int MOST_DRAWN = 20;
    private static final int MOST_WAYS = 1000000;
    private static final int NOTHING = -1;

    private static final int MOST_R = 10;
    private static final int MOST_N = 9;

    // What kept() tells.
    private static final int IS_KEPT = 0;
    private static final int IN_DOUBT = 1;
    private static final int IS_BROKEN = 2;
    private static final int IS_IMPOSSIBLE = 3;

    // What judge() tells beside the place of a wrong number.
    private static final int JUDGED_LAWFUL = 0;
    private static final int JUDGED_WRONG_LENGTH = 25;
    private static final int JUDGED_TOO_SELDOM = 26;

    private final Book book = new Book();
    private final Book keptBook = new Book();
    private boolean isImageKept;
    private final int[] found = new int[FINDINGS];
    private final Reader reader = new Reader();
    private final Sheets sheets = new Sheets();
    private final DayWays dayWays = new DayWays();
    private final Trial trial = new Trial();
    private final int[] told = new int[HOURS];
    private boolean isWayTold;

    public ReleaseTerms() {
    }

    // ---- places, sightings

    public int road(int one, int other, boolean is) {
        if (!isPlace(one) || !isPlace(other) || one == other) {
            return finding(BEYOND);
        }
        int was = book.places.areJoined(one, other) ? 1 : 0;
        book.places.join(one, other, is);
        return was;
    }

    public int roads(int place) {
        return isPlace(place) ? book.places.neighboursOf(place) : finding(BEYOND);
    }

    public int far(int from, int to) {
        if (!isPlace(from) || !isPlace(to)) {
            return finding(BEYOND);
        }
        int moves = book.places.fewestMoves(from, to);
        return moves == NOTHING ? finding(NONE) : moves;
    }

    public int seen(int person, int place, int when) {
        if (!isPerson(person) || !isPlace(place) || !isWhen(when)) {
            return finding(BEYOND);
        }
        if (!book.sightings.hasRoom()) {
            return finding(FULL);
        }
        return book.sightings.add(person, place, dayOf(when), hourOf(when));
    }

    public int seenOf(int sighting, int what) {
        if (sighting < 0 || sighting >= book.sightings.size() || what < 0 || what > Sightings.FIELDS) {
            return finding(BEYOND);
        }
        if (what == Sightings.FIELDS) {
            return book.sightings.counts(sighting) ? 1 : 0;
        }
        return book.sightings.field(sighting, what);
    }

    public int where(int person, int when) {
        if (!isPerson(person) || !isWhen(when)) {
            return finding(BEYOND);
        }
        int sighting = book.sightings.latest(person, dayOf(when), hourOf(when));
        return sighting == NOTHING ? finding(NONE) : book.sightings.field(sighting, Sightings.PLACE);
    }

    public int could(int person, int when) {
        if (!isPerson(person) || !isWhen(when)) {
            return finding(BEYOND);
        }
        return placesOfWays(person, when, 0);
    }

    public int drift(int person, int day, int n) {
        if (!isPerson(person) || !isDay(day) || n < 1 || n > MOST_DRAWN) {
            return finding(BEYOND);
        }
        for (int i = 0; i < n && book.sightings.hasRoom(); i++) {
            int place = book.draw() % PLACES;
            int hour = book.draw() % HOURS;
            book.sightings.add(person, place, day, hour);
        }
        return book.sightings.size();
    }

    // ---- terms

    public int term(int kind, int person, int place) {
        if (!Terms.isKind(kind) || !isPerson(person) || !isPlace(place)) {
            return finding(BEYOND);
        }
        if (!book.terms.hasRoomFor(person)) {
            return finding(FULL);
        }
        return book.terms.add(kind, person, place);
    }

    public int termOf(int term, int what) {
        if (!book.terms.isTerm(term) || what < 0 || what > Terms.FIELDS) {
            return finding(BEYOND);
        }
        return what == Terms.FIELDS ? book.terms.asked(term) : book.terms.field(term, what);
    }

    public int span(int term, int what, int from, int to) {
        if (!book.terms.isTerm(term) || what < 0 || what > 1) {
            return finding(BEYOND);
        }
        int bound = what == 0 ? HOURS : DAYS;
        if (from < 0 || to < from || to >= bound) {
            return finding(BEYOND);
        }
        if (what == 0) {
            book.terms.setHours(term, from, to);
        } else {
            book.terms.setDays(term, from, to);
        }
        return 1;
    }

    public int turn(int term, int kind) {
        if (!book.terms.isTerm(term) || !Terms.isKind(kind)) {
            return finding(BEYOND);
        }
        int was = book.terms.field(term, Terms.KIND_OF);
        book.terms.setKind(term, kind);
        return was;
    }

    public int change(int term, int day, int place) {
        Terms terms = book.terms;
        if (!terms.isTerm(term) || day < 1 || day >= DAYS || !isPlace(place)) {
            return finding(BEYOND);
        }
        int firstDay = terms.field(term, Terms.FIRST_DAY);
        int lastDay = terms.field(term, Terms.LAST_DAY);
        if (day <= firstDay || day > lastDay) {
            return finding(STATE);
        }
        int person = terms.field(term, Terms.PERSON);
        if (!terms.hasRoomFor(person)) {
            return finding(FULL);
        }
        int made = terms.add(terms.field(term, Terms.KIND_OF), person, place);
        terms.setHours(made, terms.field(term, Terms.FIRST_HOUR), terms.field(term, Terms.LAST_HOUR));
        terms.setDays(made, day, lastDay);
        terms.setDays(term, firstDay, day - 1);
        return made;
    }

    public int bad(int term) {
        return book.terms.isTerm(term) ? book.badPlaces(term) : finding(BEYOND);
    }

    public int inForce(int person, int day) {
        if (!isPerson(person) || !isDay(day)) {
            return finding(BEYOND);
        }
        return book.terms.binding(person, day);
    }

    public int kept(int term, int day) {
        if (!book.terms.isTerm(term) || !isDay(day)) {
            return finding(BEYOND);
        }
        if (!book.terms.isBinding(term, day)) {
            return finding(NONE);
        }
        return trial.verdict(book, term, day);
    }

    public int count(int term, int from, int to, int what) {
        if (!book.terms.isTerm(term) || !isDay(from) || !isDay(to) || to < from) {
            return finding(BEYOND);
        }
        if (what < IS_KEPT || what > IS_IMPOSSIBLE) {
            return finding(BEYOND);
        }
        int days = 0;
        for (int day = from; day <= to; day++) {
            if (book.terms.isBinding(term, day) && trial.verdict(book, term, day) == what) {
                days++;
            }
        }
        return days;
    }

    public int breach(int person, int day) {
        if (!isPerson(person) || !isDay(day)) {
            return finding(BEYOND);
        }
        for (int d = day; d < DAYS; d++) {
            if (isSomeTermBroken(person, d)) {
                return d;
            }
        }
        return finding(NONE);
    }

    // ---- ways

    public int way(int person, int day) {
        if (!isPerson(person) || !isDay(day)) {
            return finding(BEYOND);
        }
        if (!isThereAWay(person, day, book.terms.binding(person, day))) {
            return finding(NONE);
        }
        dayWays.exploreBack();
        isWayTold = true;
        return dayWays.tellBest(told);
    }

    public int at(int hour) {
        if (hour < 0 || hour >= HOURS) {
            return finding(BEYOND);
        }
        return isWayTold ? told[hour] : finding(NONE);
    }

    public int may(int person, int when) {
        if (!isPerson(person) || !isWhen(when)) {
            return finding(BEYOND);
        }
        return placesOfWays(person, when, book.terms.binding(person, dayOf(when)));
    }

    public int ways(int person, int day) {
        if (!isPerson(person) || !isDay(day)) {
            return finding(BEYOND);
        }
        return isThereAWay(person, day, book.terms.binding(person, day)) ? dayWays.howMany() : 0;
    }

    public int bars(int person, int day) {
        if (!isPerson(person) || !isDay(day)) {
            return finding(BEYOND);
        }
        int binding = book.terms.binding(person, day);
        if (isThereAWay(person, day, binding)) {
            return finding(NONE);
        }
        for (int term = 0; term < MOST_TERMS; term++) {
            if (has(binding, term) && isThereAWay(person, day, binding & ~(1 << term))) {
                return term;
            }
        }
        return finding(NONE);
    }

    // ---- boxes, sureties, hearings

    public int risk(int r, int n, int k, int part) {
        if (!areRiskBounds(r, n) || k < 0 || k > MOST_N || part < 0 || part > 1) {
            return finding(BEYOND);
        }
        long above = riskAbove(r, n, k);
        long below = power(MOST_R, n);
        long shared = commonDivisor(above, below);
        if (shared < 1) {
            return 0;
        }
        return (int) ((part == 0 ? above : below) / shared);
    }

    public int strict(int r, int n, int a) {
        if (!areRiskBounds(r, n) || a < 0 || a > 100) {
            return finding(BEYOND);
        }
        for (int k = 1; k <= MOST_N; k++) {
            if (riskAbove(r, n, k) * 100 <= a * power(MOST_R, n)) {
                return k;
            }
        }
        return finding(NONE);
    }

    public int surety(int surety, int room, int persons) {
        if (!isSurety(surety) || !isMoney(room) || persons < 0 || persons >= 1 << PERSONS) {
            return finding(BEYOND);
        }
        if (book.sureties.givenBy(surety) > 0) {
            return finding(STATE);
        }
        book.sureties.setUp(surety, room, persons);
        return 1;
    }

    public int bail(int person, int v) {
        if (!isPerson(person) || !isMoney(v)) {
            return finding(BEYOND);
        }
        if (book.sureties.givenFor(person) > 0) {
            return finding(STATE);
        }
        int was = book.sureties.bailOf(person);
        book.sureties.setBail(person, v);
        return was;
    }

    public int call(int person) {
        if (!isPerson(person)) {
            return finding(BEYOND);
        }
        if (book.sureties.givenFor(person) > 0) {
            return finding(STATE);
        }
        return book.sureties.takeBail(person);
    }

    public int back(int person) {
        return isPerson(person) ? book.sureties.giveBack(person) : finding(BEYOND);
    }

    public int suretyOf(int surety, int what) {
        if (!isSurety(surety) || what < 0 || what >= 2 + PERSONS) {
            return finding(BEYOND);
        }
        if (what == 0) {
            return book.sureties.roomOf(surety);
        }
        if (what == 1) {
            return book.sureties.backedBy(surety);
        }
        return book.sureties.givenOf(surety, what - 2);
    }

    public int hearing(int person, int day) {
        if (!isPerson(person) || !isDay(day)) {
            return finding(BEYOND);
        }
        int others = book.hearingsOfOthers(person, day);
        if (others >= MOST_HEARINGS_A_DAY) {
            return finding(FULL);
        }
        book.hearings[person] = day;
        return others + 1;
    }

    public int heard(int person) {
        if (!isPerson(person)) {
            return finding(BEYOND);
        }
        return book.hearings[person] == NOTHING ? finding(NONE) : book.hearings[person];
    }

    public int seed(int v) {
        int was = book.z;
        book.z = v;
        return was;
    }

    // ---- texts

    public int feed(int bytes, int n) {
        if (n < 1 || n > 4) {
            return finding(BEYOND);
        }
        if (n > reader.room()) {
            return finding(FULL);
        }
        for (int i = n - 1; i >= 0; i--) {
            reader.put((bytes >>> (8 * i)) & 255);
        }
        return reader.size();
    }

    public int wipe() {
        int had = reader.size();
        reader.clear();
        return had;
    }

    public int text() {
        int fault = reader.findFault(book.terms);
        reader.clear();
        if (fault != NOTHING) {
            return -1 - fault;
        }
        for (int item = 0; item < reader.itemCount(); item++) {
            carryOut(item);
        }
        return reader.itemCount();
    }

    // ---- spots, sheets

    public int hold(int spot, int term) {
        if (!isSpot(spot) || (term != NOTHING && !book.terms.isTerm(term))) {
            return finding(BEYOND);
        }
        book.spots[spot] = term;
        return 1;
    }

    public int as(int spot, int kind) {
        if (!isSpot(spot) || !Terms.isKind(kind)) {
            return finding(BEYOND);
        }
        int term = book.spots[spot];
        if (!book.terms.isTerm(term)) {
            return finding(MISSING);
        }
        return book.terms.isOfKind(term, kind) ? term : finding(KIND);
    }

    public int sheet(int s, int bits, int n) {
        if (!Sheets.isSheet(s) || !Sheets.areBits(bits)) {
            return finding(BEYOND);
        }
        if (n < 0) {
            return finding(SIZE);
        }
        if (n > Sheets.MOST_NUMBERS) {
            return finding(BEYOND);
        }
        sheets.lay(s, bits, n);
        return sheets.size(s);
    }

    public int write(int s, int i, int v) {
        if (!Sheets.isSheet(s)) {
            return finding(BEYOND);
        }
        if (sheets.isMissing(s)) {
            return finding(MISSING);
        }
        if (i < 0 || i >= sheets.size(s)) {
            return finding(BEYOND);
        }
        sheets.set(s, i, v);
        return 1;
    }

    public int copy(int s, int from, int t, int to, int n) {
        if (!Sheets.isSheet(s) || !Sheets.isSheet(t)) {
            return finding(BEYOND);
        }
        if (sheets.isMissing(s) || sheets.isMissing(t)) {
            return finding(MISSING);
        }
        if (sheets.bitsOf(s) != sheets.bitsOf(t)) {
            return finding(KIND);
        }
        if (!sheets.hasPart(s, from, n) || !sheets.hasPart(t, to, n)) {
            return finding(BEYOND);
        }
        sheets.move(s, from, t, to, n);
        return n;
    }

    public int load(int s, int person, int day) {
        if (!Sheets.isSheet(s)) {
            return finding(BEYOND);
        }
        if (sheets.isMissing(s)) {
            return finding(MISSING);
        }
        if (!isPerson(person) || !isDay(day)) {
            return finding(BEYOND);
        }
        int came = 0;
        for (int hour = 0; hour < HOURS && hour < sheets.size(s); hour++) {
            int place = sheets.get(s, hour);
            if (place == NOTHING) {
                continue;
            }
            if (!isPlace(place) || !book.sightings.hasRoom()) {
                break;
            }
            book.sightings.add(person, place, day, hour);
            came++;
        }
        return came;
    }

    public int judge(int s, int person, int day) {
        if (!Sheets.isSheet(s)) {
            return finding(BEYOND);
        }
        if (sheets.isMissing(s)) {
            return finding(MISSING);
        }
        if (!isPerson(person) || !isDay(day)) {
            return finding(BEYOND);
        }
        int binding = book.terms.binding(person, day);
        dayWays.prepare(book, person, day, binding);
        int wrong = firstWrongNumber(s);
        if (wrong != NOTHING) {
            return 1 + wrong;
        }
        if (sheets.size(s) != HOURS) {
            return JUDGED_WRONG_LENGTH;
        }
        int term = leastTermTooSeldom(s, binding);
        return term == NOTHING ? JUDGED_LAWFUL : JUDGED_TOO_SELDOM + term;
    }

    // ---- images

    public int image() {
        keptBook.takeFrom(book);
        isImageKept = true;
        return 1;
    }

    public int undo() {
        if (!isImageKept) {
            return finding(NONE);
        }
        book.takeFrom(keptBook);
        return book.terms.size();
    }

    public int tear() {
        int was = isImageKept ? 1 : 0;
        isImageKept = false;
        return was;
    }

    public int many(int what) {
        switch (what) {
            case 0:
                return book.sightings.size();
            case 1:
                return book.terms.size();
            case 2:
                return book.places.roadCount();
            case 3:
                return book.hearingCount();
            case 4:
                return reader.size();
            case 5:
                return book.z;
            case 6:
                return book.sureties.roomOfAll();
            default:
                return finding(BEYOND);
        }
    }

    public int status(int which) {
        if (which < -1 || which >= FINDINGS) {
            return finding(BEYOND);
        }
        if (which >= 0) {
            return found[which];
        }
        int all = 0;
        for (int i = 0; i < FINDINGS; i++) {
            all += found[i];
        }
        return all;
    }

    // ---- what the calls share

    private int finding(int which) {
        found[which]++;
        return LOW - which;
    }

    private int placesOfWays(int person, int when, int obeyed) {
        dayWays.prepare(book, person, dayOf(when), obeyed);
        dayWays.exploreForth();
        dayWays.exploreBack();
        return dayWays.placesIn(hourOf(when));
    }

    /** Leaves dayWays explored forth, for what is asked of the same WAYS next. */
    private boolean isThereAWay(int person, int day, int obeyed) {
        dayWays.prepare(book, person, day, obeyed);
        dayWays.exploreForth();
        return dayWays.isThereOne();
    }

    private boolean isSomeTermBroken(int person, int day) {
        int binding = book.terms.binding(person, day);
        for (int term = 0; term < MOST_TERMS; term++) {
            if (has(binding, term) && trial.verdict(book, term, day) == IS_BROKEN) {
                return true;
            }
        }
        return false;
    }

    private void carryOut(int item) {
        int one = reader.item(item, Reader.ONE);
        int other = reader.item(item, Reader.OTHER);
        switch (reader.item(item, Reader.WHAT)) {
            case Reader.A_ROAD:
                book.places.join(one, other, true);
                break;
            case Reader.A_BAIL:
                book.sureties.setBail(one, other);
                break;
            default:
                addTermOf(item, one, other);
                break;
        }
    }

    private void addTermOf(int item, int person, int place) {
        int made = book.terms.add(reader.item(item, Reader.KIND_OF), person, place);
        book.terms.setHours(made, reader.item(item, Reader.FIRST_HOUR), reader.item(item, Reader.LAST_HOUR));
        book.terms.setDays(made, reader.item(item, Reader.FIRST_DAY), reader.item(item, Reader.LAST_DAY));
    }

    /** Numbers behind the last HOUR have none to be wrong in: their being there is told by the length. */
    private int firstWrongNumber(int s) {
        int ahead = NOTHING;
        for (int hour = 0; hour < HOURS && hour < sheets.size(s); hour++) {
            int place = sheets.get(s, hour);
            if (!isPlace(place) || !dayWays.isAllowed(hour, place)) {
                return hour;
            }
            if (ahead != NOTHING && ahead != place && !book.places.areJoined(ahead, place)) {
                return hour;
            }
            ahead = place;
        }
        return NOTHING;
    }

    private int leastTermTooSeldom(int s, int binding) {
        for (int term = 0; term < MOST_TERMS; term++) {
            if (has(binding, term) && timesThere(s, term) < book.terms.asked(term)) {
                return term;
            }
        }
        return NOTHING;
    }

    private int timesThere(int s, int term) {
        int place = book.terms.field(term, Terms.PLACE);
        int last = book.terms.field(term, Terms.LAST_HOUR);
        int times = 0;
        for (int hour = book.terms.field(term, Terms.FIRST_HOUR); hour <= last; hour++) {
            if (sheets.get(s, hour) == place) {
                times++;
            }
        }
        return times;
    }

    private static boolean has(int set, int member) {
        return ((set >>> member) & 1) != 0;
    }

    private static boolean isPlace(int place) {
        return place >= 0 && place < PLACES;
    }

    private static boolean isPerson(int person) {
        return person >= 0 && person < PERSONS;
    }

    private static boolean isDay(int day) {
        return day >= 0 && day < DAYS;
    }

    private static boolean isSurety(int surety) {
        return surety >= 0 && surety < SURETIES;
    }

    private static boolean isSpot(int spot) {
        return spot >= 0 && spot < SPOTS;
    }

    private static boolean isMoney(int v) {
        return v >= 0 && v <= MOST_MONEY;
    }

    private static boolean isWhen(int when) {
        return when >= 0 && dayOf(when) < DAYS && hourOf(when) < HOURS;
    }

    private static int dayOf(int when) {
        return when / 100;
    }

    private static int hourOf(int when) {
        return when % 100;
    }

    private static boolean areRiskBounds(int r, int n) {
        return r >= 0 && r <= MOST_R && n >= 1 && n <= MOST_N;
    }

    /** How many of the 10 to the n equally likely runs of n DAYS have k or more false cries. */
    private static long riskAbove(int r, int n, int k) {
        long sum = 0;
        long choices = 1;
        for (int cries = 0; cries <= n; cries++) {
            if (cries >= k) {
                sum += choices * power(r, cries) * power(MOST_R - r, n - cries);
            }
            choices = choices * (n - cries) / (cries + 1);
        }
        return sum;
    }

    private static long power(int base, int exponent) {
        long result = 1;
        for (int i = 0; i < exponent; i++) {
            result *= base;
        }
        return result;
    }

    /** Euclid's steps for numbers up to 10 to the 9 are fewer than 50. */
    private static long commonDivisor(long one, long other) {
        long a = one;
        long b = other;
        for (int i = 0; i < 100 && b != 0; i++) {
            long rest = a % b;
            a = b;
            b = rest;
        }
        return a;
    }

    /** PLACES with the ROADS between them. */
    private static final class Places {
        private final int[] neighbours = new int[PLACES];

        boolean areJoined(int one, int other) {
            return has(neighbours[one], other);
        }

        void join(int one, int other, boolean is) {
            if (is) {
                neighbours[one] |= 1 << other;
                neighbours[other] |= 1 << one;
            } else {
                neighbours[one] &= ~(1 << other);
                neighbours[other] &= ~(1 << one);
            }
        }

        int neighboursOf(int place) {
            return neighbours[place];
        }

        /** Where one can be an HOUR after being at one of a set. */
        int stepFrom(int set) {
            int next = set;
            for (int place = 0; set != 0 && place < PLACES; place++) {
                if (has(set, place)) {
                    next |= neighbours[place];
                }
            }
            return next;
        }

        int fewestMoves(int from, int to) {
            int reached = 1 << from;
            for (int moves = 0; moves < PLACES; moves++) {
                if (has(reached, to)) {
                    return moves;
                }
                reached = stepFrom(reached);
            }
            return NOTHING;
        }

        int roadCount() {
            int ends = 0;
            for (int place = 0; place < PLACES; place++) {
                ends += Integer.bitCount(neighbours[place]);
            }
            return ends / 2;
        }

        void takeFrom(Places other) {
            System.arraycopy(other.neighbours, 0, neighbours, 0, PLACES);
        }
    }

    /** SIGHTINGS in the order in which they came. */
    private static final class Sightings {
        static final int PERSON = 0;
        static final int PLACE = 1;
        static final int DAY = 2;
        static final int HOUR = 3;
        static final int FIELDS = 4;

        private final int[] rows = new int[MOST_SIGHTINGS * FIELDS];
        private int size;

        int size() {
            return size;
        }

        boolean hasRoom() {
            return size < MOST_SIGHTINGS;
        }

        int field(int sighting, int what) {
            return rows[sighting * FIELDS + what];
        }

        /** To be called only while there is room. */
        int add(int person, int place, int day, int hour) {
            int row = size * FIELDS;
            rows[row + PERSON] = person;
            rows[row + PLACE] = place;
            rows[row + DAY] = day;
            rows[row + HOUR] = hour;
            size++;
            return size - 1;
        }

        int latest(int person, int day, int hour) {
            for (int s = size - 1; s >= 0; s--) {
                if (isOf(s, person, day) && field(s, HOUR) == hour) {
                    return s;
                }
            }
            return NOTHING;
        }

        boolean counts(int sighting) {
            return latest(field(sighting, PERSON), field(sighting, DAY), field(sighting, HOUR)) == sighting;
        }

        /** Puts the set of PLACES that the SIGHTINGS leave open into each HOUR of a row. */
        void pin(int person, int day, int[] openPlaces) {
            for (int hour = 0; hour < HOURS; hour++) {
                openPlaces[hour] = ALL_PLACES;
            }
            for (int s = 0; s < size; s++) {
                if (isOf(s, person, day)) {
                    openPlaces[field(s, HOUR)] = 1 << field(s, PLACE);
                }
            }
        }

        private boolean isOf(int sighting, int person, int day) {
            return field(sighting, PERSON) == person && field(sighting, DAY) == day;
        }

        void takeFrom(Sightings other) {
            System.arraycopy(other.rows, 0, rows, 0, MOST_SIGHTINGS * FIELDS);
            size = other.size;
        }
    }

    /** TERMS and their KINDS. */
    private static final class Terms {
        static final int KIND_OF = 0;
        static final int PERSON = 1;
        static final int PLACE = 2;
        static final int FIRST_HOUR = 3;
        static final int LAST_HOUR = 4;
        static final int FIRST_DAY = 5;
        static final int LAST_DAY = 6;
        static final int FIELDS = 7;

        static final int TERM = 0;
        static final int BARRED = 1;
        static final int REPORT = 2;
        static final int COUNTED = 3;
        static final int NEAR = 4;
        static final int WEEKLY = 5;
        static final int STRICT = 6;
        static final int KINDS = 7;

        /** The KIND above each KIND. */
        private static final int[] ABOVE = {NOTHING, TERM, TERM, REPORT, BARRED, TERM, COUNTED};
        /** ASKED, by KIND. */
        private static final int[] ASKED = {0, 0, 1, 2, 0, 0, 3};

        private final int[] rows = new int[MOST_TERMS * FIELDS];
        private int size;

        static boolean isKind(int kind) {
            return kind >= 0 && kind < KINDS;
        }

        int size() {
            return size;
        }

        boolean isTerm(int term) {
            return term >= 0 && term < size;
        }

        int field(int term, int what) {
            return rows[term * FIELDS + what];
        }

        int howManyOf(int person) {
            int many = 0;
            for (int t = 0; t < size; t++) {
                if (field(t, PERSON) == person) {
                    many++;
                }
            }
            return many;
        }

        boolean hasRoomFor(int person) {
            return size < MOST_TERMS && howManyOf(person) < MOST_TERMS_OF_ONE;
        }

        /** To be called only while there is room for the PERSON. */
        int add(int kind, int person, int place) {
            int row = size * FIELDS;
            rows[row + KIND_OF] = kind;
            rows[row + PERSON] = person;
            rows[row + PLACE] = place;
            size++;
            setHours(size - 1, 0, HOURS - 1);
            setDays(size - 1, 0, DAYS - 1);
            return size - 1;
        }

        void setKind(int term, int kind) {
            rows[term * FIELDS + KIND_OF] = kind;
        }

        void setHours(int term, int first, int last) {
            rows[term * FIELDS + FIRST_HOUR] = first;
            rows[term * FIELDS + LAST_HOUR] = last;
        }

        void setDays(int term, int first, int last) {
            rows[term * FIELDS + FIRST_DAY] = first;
            rows[term * FIELDS + LAST_DAY] = last;
        }

        int asked(int term) {
            return ASKED[field(term, KIND_OF)];
        }

        boolean isOfKind(int term, int wanted) {
            int kind = field(term, KIND_OF);
            for (int i = 0; i < KINDS && kind != NOTHING; i++) {
                if (kind == wanted) {
                    return true;
                }
                kind = ABOVE[kind];
            }
            return false;
        }

        boolean isBinding(int term, int day) {
            if (day < field(term, FIRST_DAY) || day > field(term, LAST_DAY)) {
                return false;
            }
            return field(term, KIND_OF) != WEEKLY || day % 7 < 5;
        }

        int binding(int person, int day) {
            int set = 0;
            for (int t = 0; t < size; t++) {
                if (field(t, PERSON) == person && isBinding(t, day)) {
                    set |= 1 << t;
                }
            }
            return set;
        }

        void takeFrom(Terms other) {
            System.arraycopy(other.rows, 0, rows, 0, MOST_TERMS * FIELDS);
            size = other.size;
        }
    }

    /** SURETIES with what they gave, and BAIL. */
    private static final class Sureties {
        private final int[] rooms = new int[SURETIES];
        private final int[] backed = new int[SURETIES];
        private final int[] given = new int[SURETIES * PERSONS];
        private final int[] bails = new int[PERSONS];

        void setUp(int surety, int room, int persons) {
            rooms[surety] = room;
            backed[surety] = persons;
        }

        int roomOf(int surety) {
            return rooms[surety];
        }

        int backedBy(int surety) {
            return backed[surety];
        }

        int givenOf(int surety, int person) {
            return given[surety * PERSONS + person];
        }

        int givenBy(int surety) {
            int sum = 0;
            for (int person = 0; person < PERSONS; person++) {
                sum += givenOf(surety, person);
            }
            return sum;
        }

        int givenFor(int person) {
            int sum = 0;
            for (int surety = 0; surety < SURETIES; surety++) {
                sum += givenOf(surety, person);
            }
            return sum;
        }

        int bailOf(int person) {
            return bails[person];
        }

        void setBail(int person, int v) {
            bails[person] = v;
        }

        /** Answers what is lacking. To be called only while nothing is GIVEN for the PERSON. */
        int takeBail(int person) {
            int lacking = bails[person];
            for (int surety = 0; surety < SURETIES; surety++) {
                if (has(backed[surety], person)) {
                    int gift = Math.min(lacking, rooms[surety]);
                    rooms[surety] -= gift;
                    given[surety * PERSONS + person] = gift;
                    lacking -= gift;
                }
            }
            return lacking;
        }

        int giveBack(int person) {
            int sum = 0;
            for (int surety = 0; surety < SURETIES; surety++) {
                int gift = givenOf(surety, person);
                rooms[surety] += gift;
                given[surety * PERSONS + person] = 0;
                sum += gift;
            }
            return sum;
        }

        int roomOfAll() {
            int sum = 0;
            for (int surety = 0; surety < SURETIES; surety++) {
                sum += rooms[surety];
            }
            return sum;
        }

        void takeFrom(Sureties other) {
            System.arraycopy(other.rooms, 0, rooms, 0, SURETIES);
            System.arraycopy(other.backed, 0, backed, 0, SURETIES);
            System.arraycopy(other.given, 0, given, 0, SURETIES * PERSONS);
            System.arraycopy(other.bails, 0, bails, 0, PERSONS);
        }
    }

    /** All that an image keeps. */
    private static final class Book {
        final Places places = new Places();
        final Sightings sightings = new Sightings();
        final Terms terms = new Terms();
        final Sureties sureties = new Sureties();
        final int[] hearings = new int[PERSONS];
        final int[] spots = new int[SPOTS];
        int z = 1;

        Book() {
            for (int person = 0; person < PERSONS; person++) {
                hearings[person] = NOTHING;
            }
            for (int spot = 0; spot < SPOTS; spot++) {
                spots[spot] = NOTHING;
            }
        }

        int draw() {
            z = z * 1103515245 + 12345;
            return z >>> 8;
        }

        int badPlaces(int term) {
            int place = terms.field(term, Terms.PLACE);
            switch (terms.field(term, Terms.KIND_OF)) {
                case Terms.TERM:
                case Terms.WEEKLY:
                    return ALL_PLACES & ~(1 << place);
                case Terms.BARRED:
                    return 1 << place;
                case Terms.NEAR:
                    return 1 << place | places.neighboursOf(place);
                default:
                    return 0;
            }
        }

        int hearingsOfOthers(int person, int day) {
            int others = 0;
            for (int other = 0; other < PERSONS; other++) {
                if (other != person && hearings[other] == day) {
                    others++;
                }
            }
            return others;
        }

        int hearingCount() {
            int many = 0;
            for (int person = 0; person < PERSONS; person++) {
                if (hearings[person] != NOTHING) {
                    many++;
                }
            }
            return many;
        }

        void takeFrom(Book other) {
            places.takeFrom(other.places);
            sightings.takeFrom(other.sightings);
            terms.takeFrom(other.terms);
            sureties.takeFrom(other.sureties);
            System.arraycopy(other.hearings, 0, hearings, 0, PERSONS);
            System.arraycopy(other.spots, 0, spots, 0, SPOTS);
            z = other.z;
        }
    }

    /** How one TERM fares over all WAYS of a DAY, lawful or not. */
    private static final class Trial {
        private static final int MOST_ASKED = 3;

        private final int[] open = new int[HOURS];
        /** Where the WAYS without a BAD PLACE so far can be, by how often they still owe the TERM's PLACE. */
        private final int[] clean = new int[MOST_ASKED + 1];
        /** Where the WAYS that were at a BAD PLACE can be. */
        private int fouled;

        int verdict(Book book, int term, int day) {
            book.sightings.pin(book.terms.field(term, Terms.PERSON), day, open);
            for (int owed = 0; owed <= MOST_ASKED; owed++) {
                clean[owed] = 0;
            }
            clean[book.terms.asked(term)] = ALL_PLACES;
            fouled = 0;
            for (int hour = 0; hour < HOURS; hour++) {
                goThrough(book, term, hour);
            }
            boolean breaks = (fouled | clean[1] | clean[2] | clean[3]) != 0;
            if (clean[0] == 0) {
                return breaks ? IS_BROKEN : IS_IMPOSSIBLE;
            }
            return breaks ? IN_DOUBT : IS_KEPT;
        }

        private void goThrough(Book book, int term, int hour) {
            boolean binds = hour >= book.terms.field(term, Terms.FIRST_HOUR)
                    && hour <= book.terms.field(term, Terms.LAST_HOUR);
            int bad = binds ? book.badPlaces(term) : 0;
            int paying = binds ? 1 << book.terms.field(term, Terms.PLACE) : 0;
            fouled = book.places.stepFrom(fouled) & open[hour];
            int asked = book.terms.asked(term);
            for (int owed = 0; owed <= asked; owed++) {
                int there = book.places.stepFrom(clean[owed]) & open[hour];
                fouled |= there & bad;
                clean[owed] = there & ~bad;
                if (owed > 0) {
                    // The row of one less has made its step already, so these join it and step no further.
                    clean[owed - 1] |= clean[owed] & paying;
                    clean[owed] &= ~paying;
                }
            }
        }
    }

    /**
     * The WAYS of a PERSON on a DAY that obey a set of TERMS.
     *
     * A DEBT tells how often one must still be at the PLACE of each TERM that asks for it: two bits a TERM, for
     * at most 5 TERMS of a PERSON ask for 3 at most.
     */
    private static final class DayWays {
        private static final int MOST_DEBTS = 1 << (2 * MOST_TERMS_OF_ONE);
        private static final int NO_COST = 255;
        private static final long NO_COSTS = -1L;

        private final int[] allowed = new int[HOURS];
        private final int[] steps = new int[PLACES];
        /** What being at a PLACE in an HOUR takes off a DEBT: the lower bit of each TERM that it serves. */
        private final int[] payments = new int[HOURS * PLACES];
        /** By HOUR and DEBT the set of PLACES where one can be. */
        private final int[] reached = new int[HOURS * MOST_DEBTS];
        /** By HOUR and DEBT the fewest MOVES still to go, a byte for each PLACE. */
        private final long[] toGo = new long[HOURS * MOST_DEBTS];
        /** By DEBT and PLACE how many WAYS lead there. */
        private final int[] leading = new int[MOST_DEBTS * PLACES];
        private final int[] leadingNext = new int[MOST_DEBTS * PLACES];
        /** By PLACE the fewest MOVES still to go from the next HOUR on, if one is there then. */
        private final int[] ahead = new int[PLACES];
        private int firstDebt;
        private int asking;

        void prepare(Book book, int person, int day, int obeyed) {
            book.sightings.pin(person, day, allowed);
            for (int place = 0; place < PLACES; place++) {
                steps[place] = book.places.stepFrom(1 << place);
            }
            for (int i = 0; i < HOURS * PLACES; i++) {
                payments[i] = 0;
            }
            firstDebt = 0;
            asking = 0;
            for (int term = 0; term < MOST_TERMS; term++) {
                if (has(obeyed, term)) {
                    obey(book, term);
                }
            }
        }

        private void obey(Book book, int term) {
            int bad = book.badPlaces(term);
            int asked = book.terms.asked(term);
            int place = book.terms.field(term, Terms.PLACE);
            int last = book.terms.field(term, Terms.LAST_HOUR);
            boolean asks = asked > 0 && asking < MOST_TERMS_OF_ONE;
            int lowBit = asks ? 1 << (2 * asking) : 0;
            for (int hour = book.terms.field(term, Terms.FIRST_HOUR); hour <= last; hour++) {
                allowed[hour] &= ~bad;
                payments[hour * PLACES + place] |= lowBit;
            }
            if (asks) {
                firstDebt |= asked << (2 * asking);
                asking++;
            }
        }

        boolean isAllowed(int hour, int place) {
            return has(allowed[hour], place);
        }

        /** Takes one off for each TERM that is served, where something is owed still. */
        private int pay(int debt, int hour, int place) {
            return debt - (payments[hour * PLACES + place] & (debt | debt >> 1));
        }

        private int row(int hour, int debt) {
            return hour * (firstDebt + 1) + debt;
        }

        void exploreForth() {
            int end = row(HOURS, 0);
            for (int i = 0; i < end; i++) {
                reached[i] = 0;
            }
            arrive(0, firstDebt, allowed[0]);
            for (int hour = 1; hour < HOURS; hour++) {
                for (int debt = 0; debt <= firstDebt; debt++) {
                    int from = reached[row(hour - 1, debt)];
                    if (from != 0) {
                        arrive(hour, debt, stepFrom(from) & allowed[hour]);
                    }
                }
            }
        }

        private void arrive(int hour, int debt, int set) {
            for (int place = 0; place < PLACES; place++) {
                if (has(set, place)) {
                    reached[row(hour, pay(debt, hour, place))] |= 1 << place;
                }
            }
        }

        private int stepFrom(int set) {
            int next = 0;
            for (int place = 0; place < PLACES; place++) {
                if (has(set, place)) {
                    next |= steps[place];
                }
            }
            return next;
        }

        boolean isThereOne() {
            return reached[row(HOURS - 1, 0)] != 0;
        }

        /** To be called behind exploreForth(): where nothing was reached there is nothing to go. */
        void exploreBack() {
            for (int debt = 0; debt <= firstDebt; debt++) {
                toGo[row(HOURS - 1, debt)] = NO_COSTS;
            }
            int ends = reached[row(HOURS - 1, 0)];
            for (int place = 0; place < PLACES; place++) {
                if (has(ends, place)) {
                    setCost(row(HOURS - 1, 0), place, 0);
                }
            }
            for (int hour = HOURS - 2; hour >= 0; hour--) {
                for (int debt = 0; debt <= firstDebt; debt++) {
                    weigh(hour, debt);
                }
            }
        }

        private void weigh(int hour, int debt) {
            int row = row(hour, debt);
            int set = reached[row];
            toGo[row] = NO_COSTS;
            if (set == 0) {
                return;
            }
            lookAhead(hour, debt);
            for (int place = 0; place < PLACES; place++) {
                if (has(set, place)) {
                    setCost(row, place, leastCost(place));
                }
            }
        }

        private void lookAhead(int hour, int debt) {
            for (int next = 0; next < PLACES; next++) {
                ahead[next] = cost(row(hour + 1, pay(debt, hour + 1, next)), next);
            }
        }

        private int leastCost(int place) {
            int least = ahead[place];
            for (int next = 0; next < PLACES; next++) {
                if (ahead[next] + 1 < least && has(steps[place], next)) {
                    least = ahead[next] + 1;
                }
            }
            return least;
        }

        private int cost(int row, int place) {
            return (int) (toGo[row] >>> (8 * place)) & 255;
        }

        private void setCost(int row, int place, int cost) {
            int shift = 8 * place;
            toGo[row] = toGo[row] & ~(255L << shift) | (long) cost << shift;
        }

        /** PLACES of all WAYS in an HOUR. To be called behind exploreBack(). */
        int placesIn(int hour) {
            int set = 0;
            for (int debt = 0; debt <= firstDebt; debt++) {
                int row = row(hour, debt);
                for (int place = 0; toGo[row] != NO_COSTS && place < PLACES; place++) {
                    if (cost(row, place) != NO_COST) {
                        set |= 1 << place;
                    }
                }
            }
            return set;
        }

        /** MOVES of THE WAY, whose PLACES go into a row. To be called behind exploreBack(), if there is a WAY. */
        int tellBest(int[] into) {
            int place = 0;
            int moves = NO_COST;
            for (int begin = 0; begin < PLACES; begin++) {
                int here = cost(row(0, pay(firstDebt, 0, begin)), begin);
                if (here < moves) {
                    moves = here;
                    place = begin;
                }
            }
            int debt = pay(firstDebt, 0, place);
            into[0] = place;
            for (int hour = 0; hour < HOURS - 1; hour++) {
                place = bestNext(hour, debt, place);
                debt = pay(debt, hour + 1, place);
                into[hour + 1] = place;
            }
            return moves;
        }

        private int bestNext(int hour, int debt, int place) {
            lookAhead(hour, debt);
            int least = leastCost(place);
            for (int next = 0; next < PLACES; next++) {
                int move = next == place ? 0 : 1;
                if (has(steps[place], next) && ahead[next] + move == least) {
                    return next;
                }
            }
            return place;
        }

        /**
         * How many WAYS there are, MOST_WAYS at most; sums cut at every step are right, as none ever falls. To be
         * called behind exploreForth().
         */
        int howMany() {
            int end = (firstDebt + 1) * PLACES;
            clearNext(end);
            for (int place = 0; place < PLACES; place++) {
                if (isAllowed(0, place)) {
                    leadingNext[pay(firstDebt, 0, place) * PLACES + place] = 1;
                }
            }
            System.arraycopy(leadingNext, 0, leading, 0, end);
            for (int hour = 1; hour < HOURS; hour++) {
                clearNext(end);
                for (int debt = 0; debt <= firstDebt; debt++) {
                    if (reached[row(hour - 1, debt)] != 0) {
                        leadOn(hour, debt);
                    }
                }
                System.arraycopy(leadingNext, 0, leading, 0, end);
            }
            int sum = 0;
            for (int place = 0; place < PLACES; place++) {
                sum += leading[place];
            }
            return Math.min(sum, MOST_WAYS);
        }

        private void clearNext(int end) {
            for (int i = 0; i < end; i++) {
                leadingNext[i] = 0;
            }
        }

        private void leadOn(int hour, int debt) {
            for (int next = 0; next < PLACES; next++) {
                if (isAllowed(hour, next)) {
                    int i = pay(debt, hour, next) * PLACES + next;
                    leadingNext[i] = Math.min(leadingNext[i] + leadingTo(debt, next), MOST_WAYS);
                }
            }
        }

        private int leadingTo(int debt, int next) {
            int sum = 0;
            for (int place = 0; place < PLACES; place++) {
                if (has(steps[next], place)) {
                    sum += leading[debt * PLACES + place];
                }
            }
            return sum;
        }
    }

    /** SHEETS 0 to 3. */
    private static final class Sheets {
        static final int SHEETS = 4;
        static final int MOST_NUMBERS = 40;

        private final int[] bits = new int[SHEETS];
        private final int[] sizes = new int[SHEETS];
        private final int[] numbers = new int[SHEETS * MOST_NUMBERS];

        static boolean isSheet(int s) {
            return s >= 0 && s < SHEETS;
        }

        static boolean areBits(int bits) {
            return bits == 0 || bits == 8 || bits == 16 || bits == 32;
        }

        boolean isMissing(int s) {
            return bits[s] == 0;
        }

        int bitsOf(int s) {
            return bits[s];
        }

        int size(int s) {
            return sizes[s];
        }

        void lay(int s, int newBits, int n) {
            bits[s] = newBits;
            sizes[s] = newBits == 0 ? 0 : n;
            for (int i = 0; i < MOST_NUMBERS; i++) {
                numbers[s * MOST_NUMBERS + i] = 0;
            }
        }

        int get(int s, int i) {
            return numbers[s * MOST_NUMBERS + i];
        }

        /** The lowest bits are read with their sign, so that -1 is -1 on every sheet. */
        void set(int s, int i, int v) {
            int cut = v;
            if (bits[s] == 8) {
                cut = (byte) v;
            } else if (bits[s] == 16) {
                cut = (short) v;
            }
            numbers[s * MOST_NUMBERS + i] = cut;
        }

        boolean hasPart(int s, int from, int n) {
            return from >= 0 && n >= 0 && n <= sizes[s] - from;
        }

        void move(int s, int from, int t, int to, int n) {
            System.arraycopy(numbers, s * MOST_NUMBERS + from, numbers, t * MOST_NUMBERS + to, n);
        }
    }

    /** THE TAPE, and the TEXT on it; what its ITEMS tell is set down first, as a FAULT behind them undoes all. */
    private static final class Reader {
        static final int WHAT = 0;
        static final int ONE = 1;
        static final int OTHER = 2;
        static final int KIND_OF = 3;
        static final int FIRST_HOUR = 4;
        static final int LAST_HOUR = 5;
        static final int FIRST_DAY = 6;
        static final int LAST_DAY = 7;
        private static final int FIELDS = 8;

        static final int A_ROAD = 0;
        static final int A_BAIL = 1;
        static final int A_TERM = 2;

        private static final int MOST_BYTES = 120;
        /** An ITEM has 6 bytes or more. */
        private static final int MOST_ITEMS = MOST_BYTES / 6;
        private static final int MOST_NUMBER = 9999;

        private static final int END = 0;
        private static final int WORD = 1;
        private static final int NUMBER = 2;
        private static final int SIGN = 3;
        private static final int STRANGE = 4;

        private final int[] tape = new int[MOST_BYTES];
        private int size;
        private final int[] items = new int[MOST_ITEMS * FIELDS];
        private int itemCount;
        private int fault;

        private int sort;
        private int begin;
        private int behind;
        private int value;

        private int terms;
        private final int[] termsOf = new int[PERSONS];

        int size() {
            return size;
        }

        int room() {
            return MOST_BYTES - size;
        }

        /** To be called only while there is room. */
        void put(int oneByte) {
            tape[size] = oneByte;
            size++;
        }

        void clear() {
            size = 0;
        }

        int itemCount() {
            return itemCount;
        }

        int item(int item, int what) {
            return items[item * FIELDS + what];
        }

        /** Reads THE TAPE: the FAULT, or NOTHING, and then the ITEMS are there. */
        int findFault(Terms present) {
            terms = present.size();
            for (int person = 0; person < PERSONS; person++) {
                termsOf[person] = present.howManyOf(person);
            }
            fault = NOTHING;
            itemCount = 0;
            behind = 0;
            advance();
            readItem();
            for (int i = 1; i < MOST_ITEMS && fault == NOTHING && sort == SIGN; i++) {
                advance();
                readItem();
            }
            if (sort != END) {
                refuse();
            }
            return fault;
        }

        private void readItem() {
            if (takeWord("road")) {
                int one = takeNumber(0, PLACES - 1);
                // The other end must be another PLACE, so its own number is no better than one too great.
                int other = sort == NUMBER && value == one ? refuse() : takeNumber(0, PLACES - 1);
                setDown(A_ROAD, one, other);
            } else if (takeWord("bail")) {
                int person = takeNumber(0, PERSONS - 1);
                setDown(A_BAIL, person, takeNumber(0, MOST_MONEY));
            } else {
                readTerm();
            }
        }

        private void readTerm() {
            int kind = kindOfWord();
            if (kind == NOTHING || terms >= MOST_TERMS) {
                refuse();
                return;
            }
            advance();
            if (sort == NUMBER && isPerson(value) && termsOf[value] >= MOST_TERMS_OF_ONE) {
                refuse();
            }
            int person = takeNumber(0, PERSONS - 1);
            if (!takeWord("at")) {
                refuse();
            }
            int place = takeNumber(0, PLACES - 1);
            boolean hasHours = takeWord("hours");
            int firstHour = hasHours ? takeNumber(0, HOURS - 1) : 0;
            int lastHour = hasHours ? takeNumber(firstHour, HOURS - 1) : HOURS - 1;
            boolean hasDays = takeWord("days");
            int firstDay = hasDays ? takeNumber(0, DAYS - 1) : 0;
            int lastDay = hasDays ? takeNumber(firstDay, DAYS - 1) : DAYS - 1;
            if (fault != NOTHING || itemCount >= MOST_ITEMS) {
                return;
            }
            int row = itemCount * FIELDS;
            setDown(A_TERM, person, place);
            items[row + KIND_OF] = kind;
            items[row + FIRST_HOUR] = firstHour;
            items[row + LAST_HOUR] = lastHour;
            items[row + FIRST_DAY] = firstDay;
            items[row + LAST_DAY] = lastDay;
            terms++;
            termsOf[person]++;
        }

        private void setDown(int what, int one, int other) {
            if (fault != NOTHING || itemCount >= MOST_ITEMS) {
                return;
            }
            int row = itemCount * FIELDS;
            items[row + WHAT] = what;
            items[row + ONE] = one;
            items[row + OTHER] = other;
            itemCount++;
        }

        private int kindOfWord() {
            for (int kind = 0; kind < Terms.KINDS; kind++) {
                if (sort == WORD && isTokenText(kindText(kind))) {
                    return kind;
                }
            }
            return NOTHING;
        }

        private static String kindText(int kind) {
            switch (kind) {
                case Terms.TERM:
                    return "term";
                case Terms.BARRED:
                    return "barred";
                case Terms.REPORT:
                    return "report";
                case Terms.COUNTED:
                    return "counted";
                case Terms.NEAR:
                    return "near";
                case Terms.WEEKLY:
                    return "weekly";
                default:
                    return "strict";
            }
        }

        /** Behind a FAULT nothing is taken any more, so that the first one stays. */
        private boolean takeWord(String wanted) {
            if (fault != NOTHING || sort != WORD || !isTokenText(wanted)) {
                return false;
            }
            advance();
            return true;
        }

        private int takeNumber(int least, int most) {
            if (fault != NOTHING || sort != NUMBER || value < least || value > most) {
                return refuse();
            }
            int taken = value;
            advance();
            return taken;
        }

        private int refuse() {
            if (fault == NOTHING) {
                fault = begin;
            }
            return 0;
        }

        private boolean isTokenText(String wanted) {
            if (wanted.length() != behind - begin) {
                return false;
            }
            for (int i = 0; i < wanted.length(); i++) {
                if (tape[begin + i] != wanted.charAt(i)) {
                    return false;
                }
            }
            return true;
        }

        private void advance() {
            begin = behind;
            while (begin < size && tape[begin] == ' ') {
                begin++;
            }
            sort = sortAt(begin);
            value = 0;
            behind = begin;
            boolean isLong = sort == WORD || sort == NUMBER;
            while (behind < size && sortAt(behind) == sort && (isLong || behind == begin)) {
                if (sort == NUMBER) {
                    // A value past the greatest is wrong however far past it is, and must not wrap around.
                    value = Math.min(value * 10 + tape[behind] - '0', MOST_NUMBER + 1);
                }
                behind++;
            }
        }

        private int sortAt(int i) {
            if (i >= size) {
                return END;
            }
            int sign = tape[i];
            if (sign >= 'a' && sign <= 'z') {
                return WORD;
            }
            if (sign >= '0' && sign <= '9') {
                return NUMBER;
            }
            return sign == ';' ? SIGN : STRANGE;
        }
    }
}
