import java.util.Arrays;

/** People, who are friends, and how many friends each two have in common. README.md tells how to use it. */
public final class OneFriend {
    public static final int NONE = -1, BAD = -2, STATE = -3, FULL = -4;
    public static final long NO = Long.MIN_VALUE;

    private static final int NOT_ANY = -5, NO_ROOM = -9, FAULTY = -10;
    private static final int NOTHING = -11, CAST = -12, PLACE = -13, SIZE = -14;
    private static final int LOOKED_AT = 100, SO_ALREADY = 100;

    private static final int PERSON = 0, WEIGHTY = 1, SECRET = 2, MOODY = 3, MAYOR = 4, SHY = 5, TOLD = 6;
    private static final int WANT = 0, MAKE = 1, BREAK = 2;
    private static final int BYTES = 0, SHORTS = 1, INTS = 2, LONGS = 3, BOOLEANS = 4;

    private static final int MOST_PEOPLE = 6, MOST_PAIRS = 15, MOST_V = 9, MOST_COMPLAINTS = 5;
    private static final int PARTS = 4, MOST_TOLD = 3, LAST_YEAR = 999, MOST_YEARS_MORE = 60;
    private static final int MOST_TEXT = 100, MOST_SIGN = 127, MOST_CLAUSES = 10, MOST_TOWNS = 6, MOST_WITHIN = 4;
    private static final int MOST_WISHES = 6, MOST_ROWS = 12, MOST_COMMON = 99;
    private static final int TAPES = 6, MOST_ITEMS = 60, MOST_TRACE = 20;

    /** Of each pair the lesser and the greater number. */
    private static final int[] LESSER = {0, 0, 1, 0, 1, 2, 0, 1, 2, 3, 0, 1, 2, 3, 4};
    private static final int[] GREATER = {1, 2, 2, 3, 3, 3, 4, 4, 4, 4, 5, 5, 5, 5, 5};

    private final Village now = new Village();
    private final Village image = new Village();
    /** What is asked is tried out here, so that it changes nothing. */
    private final Village trial = new Village();
    private boolean imaged;

    /** The next town: one that could not be read is read over. */
    private Town nextTown = new Town();
    private int townsMade;
    private final byte[] text = new byte[MOST_TEXT];
    private int textLength;

    private final Tape[] tapes = new Tape[TAPES];
    private final Trace latest = new Trace();

    private final int[] prices = new int[MOST_PAIRS];
    /** Of the cheapest set the price, how many pairs, the lesser pair, the other. */
    private final int[] cheapestSet = new int[4];

    public OneFriend() {
        for (int i = 0; i < TAPES; i++) {
            tapes[i] = new Tape();
        }
    }

    // ---- people, friendships, towns

    public int person(int kind, int v) {
        if (kind < PERSON || kind > TOLD) {
            return NONE;
        }
        if (v < 0 || v > MOST_V) {
            return BAD;
        }
        if (now.size >= MOST_PEOPLE) {
            return FULL;
        }
        now.join(newPerson(kind, now.size, v));
        return now.size - 1;
    }

    public int of(int person, int what) {
        Person one = now.personAt(person);
        if (one == null) {
            return NONE;
        }
        switch (what) {
            case 0:
                return one.kind;
            case 1:
                return one.v;
            case 2:
                return now.ties[person];
            case 3:
                return complainsAmong(now.amissBits(), person);
            case 4:
                return now.complaints[person];
            default:
                return NONE;
        }
    }

    public int friends(int one, int other, boolean are) {
        int refusal = refusalOfTwo(one, other);
        if (refusal != 0) {
            return refusal;
        }
        int were = asNumber(now.areTied(one, other));
        now.tie(one, other, are);
        return were;
    }

    public int pair(int one, int other) {
        int refusal = refusalOfTwo(one, other);
        if (refusal != 0) {
            return refusal;
        }
        int greater = Math.max(one, other);
        return greater * (greater - 1) / 2 + Math.min(one, other);
    }

    public int at(int pair, int what) {
        if (!now.hasPair(pair)) {
            return NONE;
        }
        switch (what) {
            case 0:
                return asNumber(now.areFriends(pair));
            case 1:
                return now.commonOf(pair);
            case 2:
                return now.wantedOf(pair);
            case 3:
                return now.priceOf(pair);
            case 4:
                return LESSER[pair];
            case 5:
                return GREATER[pair];
            default:
                return NONE;
        }
    }

    public int row(int person, int part, int n) {
        Person one = now.personAt(person);
        if (one == null || part < 0 || part >= PARTS) {
            return NONE;
        }
        if (n < 0 || n > MOST_TOLD) {
            return BAD;
        }
        if (one.kind != TOLD) {
            return STATE;
        }
        int place = person * PARTS + part;
        int was = now.rows[place];
        now.rows[place] = n;
        return was;
    }

    public int feed(int sign) {
        if (sign < 0 || sign > MOST_SIGN) {
            return BAD;
        }
        if (textLength >= MOST_TEXT) {
            return FULL;
        }
        text[textLength] = (byte) sign;
        textLength++;
        return textLength;
    }

    public int town() {
        if (townsMade >= MOST_TOWNS) {
            return FULL;
        }
        boolean isUnderstood = nextTown.understands(text, textLength);
        textLength = 0;
        if (!isUnderstood) {
            return FAULTY - nextTown.place;
        }
        now.town = nextTown;
        nextTown = new Town();
        townsMade++;
        return townsMade - 1;
    }

    public int year() {
        if (now.years >= LAST_YEAR) {
            return STATE;
        }
        now.years++;
        return now.years;
    }

    public int told(int what) {
        switch (what) {
            case 0:
                return now.years;
            case 1:
                return now.pairCount();
            case 2:
                return now.friendships();
            default:
                return NONE;
        }
    }

    // ---- what is amiss

    public int amiss(int what) {
        switch (what) {
            case 0:
                return now.amissBits();
            case 1:
                return now.howManyAmiss();
            case 2:
                return now.amissTogether();
            default:
                return NONE;
        }
    }

    public int alls() {
        int bits = 0;
        for (int i = 0; i < now.size; i++) {
            if (now.isEverybodys(i)) {
                bits |= 1 << i;
            }
        }
        return bits;
    }

    public int first(int what) {
        if (what < 0 || what > 1) {
            return NONE;
        }
        trial.become(now);
        int best = NOT_ANY;
        int fewest = trial.howManyAmiss();
        for (int p = 0; p < trial.pairCount(); p++) {
            trial.change(p);
            int many = trial.howManyAmiss();
            trial.change(p);
            if (many < fewest) {
                best = p;
                fewest = many;
            }
        }
        if (best == NOT_ANY) {
            return NOT_ANY;
        }
        return what == 0 ? best : fewest;
    }

    public int cheapest(int what) {
        if (what < 0 || what >= cheapestSet.length) {
            return NONE;
        }
        // Sets with fewer pairs come first, then by their pairs: so only a lesser price beats an earlier one.
        trial.become(now);
        Arrays.fill(cheapestSet, NOT_ANY);
        offer(0, 0, NOT_ANY, NOT_ANY);
        int pairs = now.pairCount();
        for (int p = 0; p < pairs; p++) {
            prices[p] = now.priceOf(p);
            trial.change(p);
            offer(prices[p], 1, p, NOT_ANY);
            trial.change(p);
        }
        for (int p = 0; p < pairs; p++) {
            trial.change(p);
            for (int q = p + 1; q < pairs; q++) {
                trial.change(q);
                offer(prices[p] + prices[q], 2, p, q);
                trial.change(q);
            }
            trial.change(p);
        }
        return cheapestSet[what];
    }

    public int goes(int what) {
        if (what < 0 || what > 1) {
            return NONE;
        }
        int best = NOT_ANY;
        int fewest = NOT_ANY;
        for (int i = 0; i < now.size; i++) {
            trial.become(now);
            trial.leave(i);
            int many = trial.howManyAmiss();
            if (best == NOT_ANY || many < fewest) {
                best = i;
                fewest = many;
            }
        }
        return what == 0 ? best : fewest;
    }

    public int befriends(int kind, int v, int what) {
        if (kind < PERSON || kind > TOLD || what < 0 || what > 1) {
            return NONE;
        }
        if (v < 0 || v > MOST_V) {
            return BAD;
        }
        int comer = now.size;
        if (comer >= MOST_PEOPLE) {
            return NO_ROOM;
        }
        trial.become(now);
        trial.join(newPerson(kind, comer, v));
        int best = 0;
        int fewest = trial.howManyAmiss();
        for (int set = 1; set < 1 << comer; set++) {
            for (int i = 0; i < comer; i++) {
                trial.tie(i, comer, hasBit(set, i));
            }
            int many = trial.howManyAmiss();
            if (many < fewest) {
                best = set;
                fewest = many;
            }
        }
        return what == 0 ? best : fewest;
    }

    public int complain(int person, int n) {
        if (!now.hasPerson(person)) {
            return NONE;
        }
        if (n < 0 || n > MOST_COMPLAINTS) {
            return BAD;
        }
        int was = now.complaints[person];
        now.complaints[person] = n;
        return was;
    }

    public int made() {
        if (now.isAsComplained()) {
            return SO_ALREADY;
        }
        trial.become(now);
        for (int p = 0; p < trial.pairCount(); p++) {
            trial.change(p);
            if (trial.isAsComplained()) {
                return p;
            }
            trial.change(p);
        }
        return NOT_ANY;
    }

    public int far(int one, int other) {
        if (!now.hasPerson(one) || !now.hasPerson(other)) {
            return NONE;
        }
        int reached = 1 << one;
        for (int steps = 0; steps < MOST_PEOPLE; steps++) {
            if (hasBit(reached, other)) {
                return steps;
            }
            reached = now.withFriends(reached);
        }
        return NOT_ANY;
    }

    public int towns(int n, int k) {
        if (n < 2 || n > 5 || k < 0 || k > 3) {
            return BAD;
        }
        int pairs = n * (n - 1) / 2;
        int many = 0;
        for (int ways = 0; ways < 1 << pairs; ways++) {
            trial.befriendAs(ways, pairs);
            if (trial.eachShares(k, pairs)) {
                many++;
            }
        }
        return many;
    }

    public int next(int n, int what) {
        if (what < 0 || what > 1) {
            return NONE;
        }
        if (n < 0 || n > MOST_YEARS_MORE) {
            return BAD;
        }
        trial.become(now);
        int best = 0;
        int fewest = trial.howManyAmiss();
        for (int more = 1; more <= n; more++) {
            trial.years = now.years + more;
            int many = trial.howManyAmiss();
            if (many < fewest) {
                best = more;
                fewest = many;
            }
        }
        return what == 0 ? best : fewest;
    }

    // ---- odds, wishes, books

    public long odds(int part) {
        int good = 0;
        trial.become(now);
        for (int p = 0; p < trial.pairCount(); p++) {
            if (trial.areFriends(p)) {
                trial.change(p);
                if (trial.isAllRight()) {
                    good++;
                }
                trial.change(p);
            }
        }
        return lowest(good, now.friendships(), part);
    }

    public long mean(int part) {
        int together = 0;
        for (int p = 0; p < now.pairCount(); p++) {
            together += now.commonOf(p);
        }
        return lowest(together, now.pairCount(), part);
    }

    public int wish(int pair, boolean are) {
        if (pair == -1) {
            now.wishes = 0;
            return 0;
        }
        if (!now.hasPair(pair)) {
            return NONE;
        }
        if (now.wishes >= MOST_WISHES) {
            return FULL;
        }
        now.wishPairs[now.wishes] = pair;
        now.wishAre[now.wishes] = asNumber(are);
        now.wishes++;
        return now.wishes;
    }

    public int kept(int what) {
        if (what < 0 || what > 1) {
            return NONE;
        }
        int many = 0;
        int price = 0;
        for (int i = 0; i < now.wishes; i++) {
            int pair = now.wishPairs[i];
            if (asNumber(now.areFriends(pair)) == now.wishAre[i]) {
                many++;
            } else {
                price += now.priceOf(pair);
            }
        }
        return what == 0 ? many : price;
    }

    public int book(int pair, int n) {
        if (pair == -1) {
            now.bookRows = 0;
            return 0;
        }
        if (!now.hasPair(pair)) {
            return NONE;
        }
        if (n < 0 || n > MOST_COMMON) {
            return BAD;
        }
        if (now.bookRows >= MOST_ROWS) {
            return FULL;
        }
        now.bookPairs[now.bookRows] = pair;
        now.bookCommons[now.bookRows] = n;
        now.bookRows++;
        return now.bookRows;
    }

    public int looked() {
        for (int i = 0; i < now.bookRows; i++) {
            if (now.commonOf(now.bookPairs[i]) != now.bookCommons[i]) {
                return i;
            }
        }
        return NOT_ANY;
    }

    // ---- judging, the image, acts, tapes

    public int judge(int tape, int i) {
        if (!isTape(tape)) {
            return NONE;
        }
        Tape row = tapes[tape];
        if (row.isThere() && row.sort != BOOLEANS) {
            return CAST;
        }
        for (int p = 0; p < now.pairCount(); p++) {
            // Also when the row holds nothing: its length is 0 then.
            if (i < 0 || i >= row.length - p) {
                return LOOKED_AT + p;
            }
            if ((row.items[i + p] != 0) != now.areFriends(p)) {
                return p;
            }
        }
        return NOT_ANY;
    }

    public int image() {
        image.become(now);
        imaged = true;
        return now.size;
    }

    public int undo() {
        if (!imaged) {
            return STATE;
        }
        now.become(image);
        return now.size;
    }

    public int act(int person, int act, int x) {
        latest.ran = 0;
        Person one = now.personAt(person);
        if (one == null) {
            return 0;
        }
        switch (act) {
            case 0:
                return one.meets(x, latest);
            case 1:
                return one.counts(x, latest);
            case 2:
                return one.tells(x, latest);
            default:
                return 0;
        }
    }

    public int trace(int i) {
        if (i < 0 || i >= latest.ran || i >= MOST_TRACE) {
            return NONE;
        }
        return latest.bodies[i];
    }

    public int taken(int person, int k) {
        if (k < PERSON || k > TOLD) {
            return BAD;
        }
        Person one = now.personAt(person);
        if (one == null) {
            return NOTHING;
        }
        return isOfKind(one, k) ? one.kind : CAST;
    }

    public int count(int what) {
        switch (what) {
            case 0:
                return now.size;
            case 1:
                return townsMade;
            case 2:
                return now.wishes;
            case 3:
                return now.bookRows;
            case 4:
                return textLength;
            case 5:
                return latest.ran;
            default:
                return BAD;
        }
    }

    public int tape(int tape, int sort, int n) {
        if (!isTape(tape)) {
            return NONE;
        }
        if (sort == Tape.HOLDS_NOTHING) {
            tapes[tape].hold(sort, 0);
            return 1;
        }
        if (sort < BYTES || sort > BOOLEANS || n > MOST_ITEMS) {
            return BAD;
        }
        if (n < 0) {
            return SIZE;
        }
        tapes[tape].hold(sort, n);
        return 1;
    }

    public int item(int tape, int i, long v) {
        if (!isTape(tape)) {
            return NONE;
        }
        Tape row = tapes[tape];
        if (!row.isThere()) {
            return NOTHING;
        }
        if (!row.hasPlace(i)) {
            return PLACE;
        }
        row.items[i] = row.asItem(v);
        return 1;
    }

    public long read(int tape, int i) {
        if (!isTape(tape) || !tapes[tape].hasPlace(i)) {
            return NO;
        }
        return tapes[tape].items[i];
    }

    public int shift(int tape, int i, int other, int j, int n) {
        if (!isTape(tape) || !isTape(other)) {
            return NONE;
        }
        Tape from = tapes[tape];
        Tape to = tapes[other];
        if (!from.isThere() || !to.isThere()) {
            return NOTHING;
        }
        if (from.sort != to.sort) {
            return CAST;
        }
        if (!from.hasStretch(i, n) || !to.hasStretch(j, n)) {
            return PLACE;
        }
        System.arraycopy(from.items, i, to.items, j, n);
        return n;
    }

    // ---- what the calls above share

    private static int asNumber(boolean so) {
        return so ? 1 : 0;
    }

    private static boolean hasBit(int bits, int i) {
        return (bits >> i & 1) == 1;
    }

    private static boolean isTape(int tape) {
        return tape >= 0 && tape < TAPES;
    }

    private static Person newPerson(int kind, int number, int v) {
        switch (kind) {
            case WEIGHTY:
                return new Weighty(kind, number, v);
            case SECRET:
                return new Secret(kind, number, v);
            case MOODY:
                return new Moody(kind, number, v);
            case MAYOR:
                return new Mayor(kind, number, v);
            case SHY:
                return new Shy(kind, number, v);
            case TOLD:
                return new Told(kind, number, v);
            default:
                return new Person(kind, number, v);
        }
    }

    private static boolean isOfKind(Person one, int kind) {
        switch (kind) {
            case WEIGHTY:
                return one instanceof Weighty;
            case SECRET:
                return one instanceof Secret;
            case MOODY:
                return one instanceof Moody;
            case MAYOR:
                return one instanceof Mayor;
            case SHY:
                return one instanceof Shy;
            case TOLD:
                return one instanceof Told;
            default:
                return true;
        }
    }

    /** Why two people are no pair; 0, if they are one. */
    private int refusalOfTwo(int one, int other) {
        if (!now.hasPerson(one) || !now.hasPerson(other)) {
            return NONE;
        }
        return one == other ? BAD : 0;
    }

    /** How many of these pairs are the one's. */
    private static int complainsAmong(int amissBits, int person) {
        int many = 0;
        for (int p = 0; p < MOST_PAIRS; p++) {
            if (hasBit(amissBits, p) && (LESSER[p] == person || GREATER[p] == person)) {
                many++;
            }
        }
        return many;
    }

    /** A part of above / below in lowest terms. */
    private static long lowest(int above, int below, int part) {
        if (below <= 0 || part < 0 || part > 1) {
            return NO;
        }
        int shared = 1;
        for (int d = 2; d <= below; d++) {
            if (above % d == 0 && below % d == 0) {
                shared = d;
            }
        }
        return (part == 0 ? above : below) / shared;
    }

    /** The cheapest set becomes this one, as it is tried now, if that is right and cheaper. */
    private void offer(int price, int many, int lesser, int other) {
        boolean isCheaper = cheapestSet[0] == NOT_ANY || price < cheapestSet[0];
        if (isCheaper && trial.isAllRight()) {
            cheapestSet[0] = price;
            cheapestSet[1] = many;
            cheapestSet[2] = lesser;
            cheapestSet[3] = other;
        }
    }

    /** The numbers of the bodies that ran, as they began. */
    private static final class Trace {
        final int[] bodies = new int[MOST_TRACE];
        int ran;

        void begin(int body) {
            if (ran >= 0 && ran < MOST_TRACE) {
                bodies[ran] = body;
            }
            ran++;
        }
    }

    private static class Person {
        final int kind;
        final int number;
        final int v;

        Person(int kind, int number, int v) {
            this.kind = kind;
            this.number = number;
            this.v = v;
        }

        /** As how many this one counts, being a friend of both of two who are friends or not. */
        int worth(Village village, boolean areFriends) {
            return 1;
        }

        int meets(int x, Trace trace) {
            trace.begin(10);
            return x + number;
        }

        int counts(int x, Trace trace) {
            trace.begin(11);
            return meets(x, trace) - v;
        }

        int tells(int x, Trace trace) {
            trace.begin(12);
            return counts(x, trace) * 2;
        }
    }

    private static class Weighty extends Person {
        Weighty(int kind, int number, int v) {
            super(kind, number, v);
        }

        int worth(Village village, boolean areFriends) {
            return v % 2 == 1 ? 2 : 1;
        }

        int counts(int x, Trace trace) {
            trace.begin(20);
            return super.counts(x, trace) ^ 6;
        }
    }

    private static class Secret extends Person {
        Secret(int kind, int number, int v) {
            super(kind, number, v);
        }

        int worth(Village village, boolean areFriends) {
            return areFriends ? 0 : 1;
        }

        int meets(int x, Trace trace) {
            trace.begin(30);
            return super.meets(x * 3, trace);
        }
    }

    private static class Moody extends Person {
        Moody(int kind, int number, int v) {
            super(kind, number, v);
        }

        int worth(Village village, boolean areFriends) {
            int span = v + 2;
            return span > 0 && village.years % span == 0 ? 0 : 1;
        }

        int tells(int x, Trace trace) {
            trace.begin(40);
            return super.tells(x, trace) + counts(1, trace);
        }
    }

    private static final class Mayor extends Weighty {
        Mayor(int kind, int number, int v) {
            super(kind, number, v);
        }

        int worth(Village village, boolean areFriends) {
            return village.isEverybodys(number) ? super.worth(village, areFriends) : 0;
        }

        int meets(int x, Trace trace) {
            trace.begin(50);
            return -super.meets(x, trace);
        }

        int counts(int x, Trace trace) {
            trace.begin(51);
            return super.counts(x + 1, trace);
        }
    }

    private static final class Shy extends Secret {
        Shy(int kind, int number, int v) {
            super(kind, number, v);
        }

        int worth(Village village, boolean areFriends) {
            return village.friendsOf(number) > 3 ? 0 : super.worth(village, areFriends);
        }

        int tells(int x, Trace trace) {
            trace.begin(60);
            return super.tells(x - number, trace);
        }
    }

    private static final class Told extends Moody {
        Told(int kind, int number, int v) {
            super(kind, number, v);
        }

        int worth(Village village, boolean areFriends) {
            return village.toldOf(number);
        }

        int counts(int x, Trace trace) {
            trace.begin(70);
            return super.counts(x, trace) + super.meets(2, trace);
        }

        int meets(int x, Trace trace) {
            trace.begin(71);
            return super.meets(x, trace) ^ v;
        }
    }

    /** All that an image keeps, and what is amiss in it. */
    private static final class Village {
        int size;
        /** Who is there, as bits: all but the one without whom it is tried. */
        int here;
        int years;
        /** The town that holds, or null. */
        Town town;
        final Person[] people = new Person[MOST_PEOPLE];
        /** Of each one the friends, as bits. */
        final int[] ties = new int[MOST_PEOPLE];
        final int[] rows = new int[MOST_PEOPLE * PARTS];
        final int[] complaints = new int[MOST_PEOPLE];
        int wishes;
        final int[] wishPairs = new int[MOST_WISHES];
        final int[] wishAre = new int[MOST_WISHES];
        int bookRows;
        final int[] bookPairs = new int[MOST_ROWS];
        final int[] bookCommons = new int[MOST_ROWS];
        /** What a town's tests look at, in the order of its letters. */
        private final int[] facts = new int[Town.LETTERS.length()];

        void become(Village other) {
            size = other.size;
            here = other.here;
            years = other.years;
            town = other.town;
            wishes = other.wishes;
            bookRows = other.bookRows;
            System.arraycopy(other.people, 0, people, 0, MOST_PEOPLE);
            System.arraycopy(other.ties, 0, ties, 0, MOST_PEOPLE);
            System.arraycopy(other.rows, 0, rows, 0, MOST_PEOPLE * PARTS);
            System.arraycopy(other.complaints, 0, complaints, 0, MOST_PEOPLE);
            System.arraycopy(other.wishPairs, 0, wishPairs, 0, MOST_WISHES);
            System.arraycopy(other.wishAre, 0, wishAre, 0, MOST_WISHES);
            System.arraycopy(other.bookPairs, 0, bookPairs, 0, MOST_ROWS);
            System.arraycopy(other.bookCommons, 0, bookCommons, 0, MOST_ROWS);
        }

        boolean hasPerson(int person) {
            return person >= 0 && person < size;
        }

        /** One of the people, or null. */
        Person personAt(int person) {
            return hasPerson(person) ? people[person] : null;
        }

        void join(Person one) {
            if (size >= MOST_PEOPLE) {
                return;
            }
            people[size] = one;
            ties[size] = 0;
            complaints[size] = 0;
            for (int part = 0; part < PARTS; part++) {
                rows[size * PARTS + part] = 0;
            }
            here |= 1 << size;
            size++;
        }

        void leave(int person) {
            here &= ~(1 << person);
            for (int i = 0; i < size; i++) {
                ties[i] = i == person ? 0 : ties[i] & here;
            }
        }

        boolean areTied(int one, int other) {
            return hasBit(ties[one], other);
        }

        void tie(int one, int other, boolean are) {
            if (are) {
                ties[one] |= 1 << other;
                ties[other] |= 1 << one;
            } else {
                ties[one] &= ~(1 << other);
                ties[other] &= ~(1 << one);
            }
        }

        int friendsOf(int person) {
            return Integer.bitCount(ties[person]);
        }

        boolean isEverybodys(int person) {
            int others = here & ~(1 << person);
            return (others & ties[person]) == others;
        }

        int toldOf(int person) {
            return rows[person * PARTS + years % PARTS];
        }

        /** Those, and all friends of theirs, as bits. */
        int withFriends(int those) {
            int all = those;
            for (int i = 0; i < size; i++) {
                if (hasBit(those, i)) {
                    all |= ties[i];
                }
            }
            return all;
        }

        int pairCount() {
            return size * (size - 1) / 2;
        }

        boolean hasPair(int pair) {
            return pair >= 0 && pair < pairCount();
        }

        boolean areFriends(int pair) {
            return areTied(LESSER[pair], GREATER[pair]);
        }

        void change(int pair) {
            tie(LESSER[pair], GREATER[pair], !areFriends(pair));
        }

        int friendships() {
            int many = 0;
            for (int p = 0; p < pairCount(); p++) {
                if (areFriends(p)) {
                    many++;
                }
            }
            return many;
        }

        int commonOf(int pair) {
            int both = ties[LESSER[pair]] & ties[GREATER[pair]];
            boolean areFriends = areFriends(pair);
            int together = 0;
            for (int i = 0; i < size; i++) {
                Person one = people[i];
                if (hasBit(both, i) && one != null) {
                    together += one.worth(this, areFriends);
                }
            }
            return together;
        }

        int wantedOf(int pair) {
            return asTownSays(WANT, pair);
        }

        int priceOf(int pair) {
            return asTownSays(areFriends(pair) ? BREAK : MAKE, pair);
        }

        private int asTownSays(int word, int pair) {
            if (town == null) {
                return 1;
            }
            facts[0] = LESSER[pair];
            facts[1] = GREATER[pair];
            facts[2] = asNumber(areFriends(pair));
            facts[3] = friendsOf(LESSER[pair]);
            facts[4] = friendsOf(GREATER[pair]);
            facts[5] = years % 10;
            return town.together(word, facts);
        }

        /** By how many too many or too few; 0 with one who is not there. */
        private int amissBy(int pair) {
            if (!hasBit(here, LESSER[pair]) || !hasBit(here, GREATER[pair])) {
                return 0;
            }
            return Math.abs(commonOf(pair) - asTownSays(WANT, pair));
        }

        int amissBits() {
            int bits = 0;
            for (int p = 0; p < pairCount(); p++) {
                if (amissBy(p) != 0) {
                    bits |= 1 << p;
                }
            }
            return bits;
        }

        int howManyAmiss() {
            return Integer.bitCount(amissBits());
        }

        int amissTogether() {
            int together = 0;
            for (int p = 0; p < pairCount(); p++) {
                together += amissBy(p);
            }
            return together;
        }

        boolean isAllRight() {
            for (int p = 0; p < pairCount(); p++) {
                if (amissBy(p) != 0) {
                    return false;
                }
            }
            return true;
        }

        boolean isAsComplained() {
            int bits = amissBits();
            for (int i = 0; i < size; i++) {
                if (complainsAmong(bits, i) != complaints[i]) {
                    return false;
                }
            }
            return true;
        }

        /** Just the first pairs whose bits are set are friends then. */
        void befriendAs(int bits, int pairs) {
            Arrays.fill(ties, 0);
            for (int p = 0; p < pairs; p++) {
                if (hasBit(bits, p)) {
                    tie(LESSER[p], GREATER[p], true);
                }
            }
        }

        /** Whether each of the first pairs has just k friends in common, whoever they are. */
        boolean eachShares(int k, int pairs) {
            for (int p = 0; p < pairs; p++) {
                if (Integer.bitCount(ties[LESSER[p]] & ties[GREATER[p]]) != k) {
                    return false;
                }
            }
            return true;
        }
    }

    /** The clauses of a text; each one's expression is kept with its operators behind what they join. */
    private static final class Town {
        static final String LETTERS = "abfdey";
        private static final String SIGNS = "<=>", DIGITS = "0123456789";
        private static final int NOT = -1, AND = -2, OR = -3;
        private static final int LESS = 0, EQUAL = 1;
        /** A test is kept as one number: (letter * SIGNS_MANY + sign) * NUMBERS + number. */
        private static final int SIGNS_MANY = 3, NUMBERS = 100;

        /** How far the text was understood: a faulty one's fault. */
        int place;
        private final byte[] text = new byte[MOST_TEXT];
        private int length;
        private int clauses;
        private final int[] words = new int[MOST_CLAUSES];
        private final int[] numbers = new int[MOST_CLAUSES];
        /** Where each clause's steps end. */
        private final int[] ends = new int[MOST_CLAUSES];
        private final int[] steps = new int[MOST_TEXT];
        private int stepCount;

        /** The text has as many bytes as a text may have, the first so many of which count. */
        boolean understands(byte[] newText, int newLength) {
            System.arraycopy(newText, 0, text, 0, MOST_TEXT);
            length = newLength;
            place = 0;
            clauses = 0;
            stepCount = 0;
            for (int i = 0; i < MOST_CLAUSES; i++) {
                if (i > 0 && !takes(';')) {
                    return false;
                }
                if (!takesClause(i)) {
                    return false;
                }
                clauses = i + 1;
                if (place == length) {
                    return true;
                }
            }
            return false;
        }

        private boolean takes(char sign) {
            if (place >= length || text[place] != sign) {
                return false;
            }
            place++;
            return true;
        }

        private boolean takesClause(int i) {
            words[i] = takenWord();
            if (words[i] < 0 || !takes(' ')) {
                return false;
            }
            numbers[i] = takenNumber();
            if (numbers[i] < 0 || !takes(' ') || !takesEither(0)) {
                return false;
            }
            ends[i] = stepCount;
            return true;
        }

        private int takenWord() {
            int word = takenOneOf("wmb");
            switch (word) {
                case WANT:
                    return takesAll("ant") ? word : NONE;
                case MAKE:
                    return takesAll("ake") ? word : NONE;
                case BREAK:
                    return takesAll("reak") ? word : NONE;
                default:
                    return NONE;
            }
        }

        private boolean takesAll(String signs) {
            for (int i = 0; i < signs.length(); i++) {
                if (!takes(signs.charAt(i))) {
                    return false;
                }
            }
            return true;
        }

        /** A number of one or two digits. */
        private int takenNumber() {
            int number = takenOneOf(DIGITS);
            if (number < 0) {
                return NONE;
            }
            int digit = takenOneOf(DIGITS);
            return digit < 0 ? number : number * 10 + digit;
        }

        /** How many ( and ! stand open is told as within, which keeps the recursion low. */
        private boolean takesEither(int within) {
            if (!takesBoth(within)) {
                return false;
            }
            for (int i = 0; i < MOST_TEXT && takes('|'); i++) {
                if (!takesBoth(within)) {
                    return false;
                }
                keep(OR);
            }
            return true;
        }

        private boolean takesBoth(int within) {
            if (!takesFactor(within)) {
                return false;
            }
            for (int i = 0; i < MOST_TEXT && takes('&'); i++) {
                if (!takesFactor(within)) {
                    return false;
                }
                keep(AND);
            }
            return true;
        }

        private boolean takesFactor(int within) {
            if (within < MOST_WITHIN && takes('!')) {
                if (!takesFactor(within + 1)) {
                    return false;
                }
                keep(NOT);
                return true;
            }
            if (within < MOST_WITHIN && takes('(')) {
                return takesEither(within + 1) && takes(')');
            }
            int letter = takenOneOf(LETTERS);
            int sign = letter < 0 ? NONE : takenOneOf(SIGNS);
            int number = sign < 0 ? NONE : takenNumber();
            if (number < 0) {
                return false;
            }
            keep((letter * SIGNS_MANY + sign) * NUMBERS + number);
            return true;
        }

        /** Which one of the signs comes next, and is taken. */
        private int takenOneOf(String signs) {
            int which = place < length ? signs.indexOf((char) text[place]) : NONE;
            if (which >= 0) {
                place++;
            }
            return which;
        }

        private void keep(int step) {
            if (stepCount < MOST_TEXT) {
                steps[stepCount] = step;
                stepCount++;
            }
        }

        /** The numbers of all clauses of a word that hold; 1, if there is no clause of it. */
        int together(int word, int[] facts) {
            boolean isAny = false;
            int sum = 0;
            for (int i = 0; i < clauses; i++) {
                if (words[i] == word) {
                    isAny = true;
                    sum += holds(i, facts) ? numbers[i] : 0;
                }
            }
            return isAny ? sum : 1;
        }

        private boolean holds(int clause, int[] facts) {
            // What still waits to be joined stands in the bits, the newest lowest: few, as so few ( stand open.
            long waiting = 0;
            for (int i = clause == 0 ? 0 : ends[clause - 1]; i < ends[clause]; i++) {
                long newest = waiting & 1;
                switch (steps[i]) {
                    case NOT:
                        waiting ^= 1;
                        break;
                    case AND:
                        waiting = waiting >> 1 & (newest | ~1L);
                        break;
                    case OR:
                        waiting = waiting >> 1 | newest;
                        break;
                    default:
                        waiting = waiting << 1 | asNumber(testHolds(steps[i], facts));
                        break;
                }
            }
            return (waiting & 1) == 1;
        }

        private static boolean testHolds(int test, int[] facts) {
            int number = test % NUMBERS;
            int sign = test / NUMBERS % SIGNS_MANY;
            int letter = test / NUMBERS / SIGNS_MANY;
            if (letter < 0 || letter >= facts.length) {
                return false;
            }
            int fact = facts[letter];
            if (sign == LESS) {
                return fact < number;
            }
            return sign == EQUAL ? fact == number : fact > number;
        }
    }

    /** A row of numbers of a sort, or nothing. */
    private static final class Tape {
        static final int HOLDS_NOTHING = -1;

        int sort = HOLDS_NOTHING;
        int length;
        final long[] items = new long[MOST_ITEMS];

        void hold(int newSort, int newLength) {
            sort = newSort;
            length = newLength;
            Arrays.fill(items, 0);
        }

        boolean isThere() {
            return sort != HOLDS_NOTHING;
        }

        boolean hasPlace(int i) {
            return i >= 0 && i < length;
        }

        boolean hasStretch(int i, int n) {
            return n >= 0 && i >= 0 && n <= length && i <= length - n;
        }

        /** What an item of the sort keeps of a number. */
        long asItem(long v) {
            switch (sort) {
                case BYTES:
                    return (byte) v;
                case SHORTS:
                    return (short) v;
                case INTS:
                    return (int) v;
                case BOOLEANS:
                    return v != 0 ? 1 : 0;
                default:
                    return v;
            }
        }
    }
}
