/**
 * Money of pressed ferns: a frond laid in a book is worth its leaflets, and loses some by each hand.
 * The promises are told by ../shared/DOC.md; every refusal is an answer and changes nothing.
 */
public final class PressedFerns {
    public static final int NONE = -1, UNKNOWN = -101, OUTSIDE = -102, STATE = -103, FULL = -104;

    private static final int PEOPLE = 6;
    private static final int MOST_FRONDS = 10;
    private static final int MOST_TEARS = 4;
    private static final int MOST_LETTERS = 22;
    private static final int WHOLE_FROND = 9;
    private static final int MOST_OWED = 99;
    private static final int MOST_MONTHS = 9;
    private static final int ALL_TENTHS = 10;

    private final Herbarium now = new Herbarium();
    private final Herbarium kept = new Herbarium();
    // Months by a seed are tried here, so that what really is stays as it is.
    private final Herbarium tried = new Herbarium();
    private boolean isKept;
    private final Page page = new Page();
    private final Purse purse = new Purse();
    private final RingSearch rings = new RingSearch();
    private final Groups groups = new Groups();
    private final Chances chances = new Chances();
    private final Ways ways = new Ways();
    private final Draws draws = new Draws();

    public PressedFerns() {
    }

    // ---- fronds

    public int letters(long w) {
        int more = Page.lettersIn(w);
        if (more == NONE) {
            return OUTSIDE;
        }
        if (page.size + more > MOST_LETTERS) {
            return FULL;
        }
        page.write(w, more);
        return page.size;
    }

    public int blank() {
        int had = page.size;
        page.size = 0;
        return had;
    }

    public int fault() {
        return page.firstFault();
    }

    public int book(int person) {
        if (!isPerson(person)) {
            return UNKNOWN;
        }
        int fronds = page.frondsOfBook();
        if (fronds == NONE) {
            return STATE;
        }
        if (now.size + fronds > MOST_FRONDS) {
            return FULL;
        }
        page.readInto(now, person);
        page.size = 0;
        return fronds;
    }

    public int about(int frond, int what) {
        if (!now.knows(frond)) {
            return UNKNOWN;
        }
        if (!isWithin(what, 0, 3 + MOST_TEARS)) {
            return OUTSIDE;
        }
        return now.tellOf(frond, what);
    }

    public int as(int frond, int kind) {
        if (!now.knows(frond)) {
            return UNKNOWN;
        }
        if (!isWithin(kind, Kind.FROND, Kind.WET)) {
            return OUTSIDE;
        }
        return Kind.isAlso(now.kinds[frond], kind) ? frond : NONE;
    }

    public int snap(int frond, int leaflets) {
        if (!now.knows(frond)) {
            return UNKNOWN;
        }
        if (!isWithin(leaflets, 1, WHOLE_FROND - 1)) {
            return OUTSIDE;
        }
        if (now.isAtBank(frond) || now.leaflets[frond] <= leaflets) {
            return STATE;
        }
        if (now.size >= MOST_FRONDS) {
            return FULL;
        }
        now.leaflets[frond] -= leaflets;
        return now.add(Kind.FROND, leaflets, now.owners[frond]);
    }

    // ---- hands, debts

    public int pay(int frond, int to) {
        if (!now.knows(frond) || !isPerson(to)) {
            return UNKNOWN;
        }
        if (now.isAtBank(frond) || now.owners[frond] == to) {
            return STATE;
        }
        int from = now.owners[frond];
        int paid = now.goByHand(frond, to);
        now.debts.lessen(from, to, paid);
        return paid;
    }

    public int debt(int a, int b, int v) {
        if (!areTwo(a, b)) {
            return UNKNOWN;
        }
        if (!isWithin(v, 0, MOST_OWED)) {
            return OUTSIDE;
        }
        int before = now.debts.sum(a, b);
        now.debts.put(a, b, v);
        return before;
    }

    public int owes(int a, int b) {
        return areTwo(a, b) ? now.debts.sum(a, b) : UNKNOWN;
    }

    public int bank(int frond) {
        if (!now.knows(frond)) {
            return UNKNOWN;
        }
        return now.isAtBank(frond) ? STATE : now.goByHand(frond, NONE);
    }

    public int fetch(int frond, int to) {
        if (!now.knows(frond) || !isPerson(to)) {
            return UNKNOWN;
        }
        if (!now.isAtBank(frond)) {
            return STATE;
        }
        now.owners[frond] = to;
        return now.leaflets[frond];
    }

    public int month(boolean damp) {
        return damp ? now.takeMould() : 0;
    }

    public int june() {
        int before = now.size;
        int growers = now.ownersOfWholeFronds();
        for (int person = 0; person < PEOPLE; person++) {
            if ((growers >> person & 1) != 0) {
                now.add(Kind.FROND, WHOLE_FROND, person);
            }
        }
        return now.size - before;
    }

    // ---- what would be

    public int least(int payer, int sum, int what) {
        if (!isPerson(payer)) {
            return UNKNOWN;
        }
        if (!isWithin(sum, 1, MOST_OWED) || !isWithin(what, 0, 1)) {
            return OUTSIDE;
        }
        purse.search(now, payer, sum);
        return what == 0 ? purse.worth() : purse.bits();
    }

    public int ring(int what) {
        if (!isWithin(what, 0, 1) && !isWithin(what, 10, 9 + PEOPLE)) {
            return OUTSIDE;
        }
        rings.search(now.debts);
        return rings.tell(now.debts, what);
    }

    public int clear() {
        rings.search(now.debts);
        return rings.isFound() ? rings.takeOff(now.debts) : STATE;
    }

    public int fewest() {
        return PEOPLE - groups.most(now.debts);
    }

    public long held(int frond, int months, int tenths, int part) {
        if (!now.knows(frond)) {
            return UNKNOWN;
        }
        if (!isWithin(months, 0, MOST_MONTHS) || !isWithin(tenths, 0, ALL_TENTHS) || !isWithin(part, 0, 1)) {
            return OUTSIDE;
        }
        return meanOf(frond, months, tenths, part);
    }

    public int when(int frond, int months, int tenths) {
        if (!now.knows(frond)) {
            return UNKNOWN;
        }
        if (!isWithin(months, 0, MOST_MONTHS) || !isWithin(tenths, 0, ALL_TENTHS)) {
            return OUTSIDE;
        }
        chances.begin(now, frond, tenths);
        return chances.lastMonthOfNoLess(months);
    }

    public int went(int frond, int from, int hands, int months) {
        if (!now.knows(frond) || !isPerson(from)) {
            return UNKNOWN;
        }
        if (!isWithin(hands, 0, Ways.MOST_HANDS) || !isWithin(months, 0, Ways.MOST_DAMP)) {
            return OUTSIDE;
        }
        if (now.isAtBank(frond)) {
            return STATE;
        }
        int orders = Ways.orders(now.kinds[frond], hands, months, now.leaflets[frond]);
        return orders == 0 ? 0 : orders * ways.throughPeople(now, frond, from, hands);
    }

    public int months(int times, int tenths, int seed, int what) {
        if (!isWithin(times, 1, 60) || !isWithin(tenths, 0, ALL_TENTHS) || seed < 0 || !isWithin(what, 0, 2)) {
            return OUTSIDE;
        }
        tried.copyFrom(now);
        draws.begin(seed);
        int damp = 0;
        for (int i = 0; i < times; i++) {
            damp += draws.passMonth(tried, tenths);
        }
        if (what == 0) {
            return tried.leafletsOfAll();
        }
        return what == 1 ? damp : draws.seed();
    }

    // ---- what is told of all

    public int image() {
        kept.copyFrom(now);
        isKept = true;
        return now.size;
    }

    public int restore() {
        if (!isKept) {
            return STATE;
        }
        now.copyFrom(kept);
        return now.size;
    }

    public int count(int what) {
        switch (what) {
            case 0:
                return now.size;
            case 1:
                return now.leafletsOfAll();
            case 2:
                return now.lostByHands;
            case 3:
                return now.lostByMould;
            case 4:
                return now.frondsAtBank();
            case 5:
                return page.size;
            case 6:
                return now.debts.total();
            default:
                return OUTSIDE;
        }
    }

    public long digest() {
        long h = withFronds(661);
        h = withDebts(h);
        h = withPurses(h);
        for (int place = 0; place < page.size; place++) {
            h = 31 * h + page.codes[place];
        }
        for (int what = 0; what <= 6; what++) {
            h = 31 * h + count(what);
        }
        return h;
    }

    private long withFronds(long start) {
        long h = start;
        for (int frond = 0; frond < now.size; frond++) {
            for (int what = 0; what <= 3 + MOST_TEARS; what++) {
                h = 31 * h + now.tellOf(frond, what);
            }
            h = 31 * h + meanOf(frond, 3, 5, 0);
            h = 31 * h + meanOf(frond, 3, 5, 1);
        }
        return h;
    }

    private long withDebts(long start) {
        long h = start;
        for (int a = 0; a < PEOPLE; a++) {
            for (int b = 0; b < PEOPLE; b++) {
                if (a != b) {
                    h = 31 * h + now.debts.sum(a, b);
                }
            }
        }
        rings.search(now.debts);
        h = 31 * h + rings.tell(now.debts, 0);
        h = 31 * h + rings.tell(now.debts, 1);
        for (int place = 0; place < PEOPLE; place++) {
            h = 31 * h + rings.tell(now.debts, 10 + place);
        }
        return 31 * h + fewest();
    }

    private long withPurses(long start) {
        long h = start;
        for (int person = 0; person < PEOPLE; person++) {
            purse.search(now, person, 7);
            h = 31 * h + purse.worth();
            h = 31 * h + purse.bits();
        }
        return h;
    }

    private long meanOf(int frond, int months, int tenths, int part) {
        chances.begin(now, frond, tenths);
        for (int i = 0; i < months; i++) {
            chances.passMonth();
        }
        return chances.meanInLowestTerms(part);
    }

    private static boolean isWithin(int n, int least, int most) {
        return n >= least && n <= most;
    }

    private static boolean isPerson(int n) {
        return isWithin(n, 0, PEOPLE - 1);
    }

    private static boolean areTwo(int a, int b) {
        return isPerson(a) && isPerson(b) && a != b;
    }

    /** What each kind loses, and what it is besides. */
    private static final class Kind {
        static final int FROND = 0, BRACKEN = 1, MALE = 2, PRESSED = 3, WET = 4;

        static boolean isAlso(int kind, int other) {
            return other == FROND || other == kind || (other == BRACKEN && kind == WET);
        }

        static int ofLetter(int code) {
            switch (code) {
                case 'b':
                    return BRACKEN;
                case 'm':
                    return MALE;
                case 'p':
                    return PRESSED;
                case 'w':
                    return WET;
                default:
                    return NONE;
            }
        }

        static int behindHand(int kind, int leaflets) {
            return Math.max(0, leaflets - lossByHand(kind, leaflets));
        }

        private static int lossByHand(int kind, int leaflets) {
            switch (kind) {
                case BRACKEN:
                    return 2;
                case MALE:
                    return leaflets > 5 ? 0 : 1;
                case PRESSED:
                    return leaflets == WHOLE_FROND ? 0 : 1;
                case WET:
                    return 3;
                default:
                    return 1;
            }
        }

        static int behindDamp(int kind, int leaflets) {
            return Math.max(0, leaflets - lossByMould(kind));
        }

        private static int lossByMould(int kind) {
            if (kind == PRESSED) {
                return 0;
            }
            return kind == WET ? 2 : 1;
        }
    }

    /** The letters that stand for fronds not yet read. */
    private static final class Page {
        private static final int LETTERS_OF_A_LONG = 8;

        final int[] codes = new int[MOST_LETTERS];
        int size;

        /** NONE: w tells no letters. */
        static int lettersIn(long w) {
            int letters = 0;
            boolean hasEnded = false;
            for (int i = 0; i < LETTERS_OF_A_LONG; i++) {
                int code = codeIn(w, i);
                if (code > 126 || (hasEnded && code != 0)) {
                    return NONE;
                }
                if (code == 0) {
                    hasEnded = true;
                } else {
                    letters++;
                }
            }
            return letters;
        }

        private static int codeIn(long w, int place) {
            return (int) (w >>> (8 * place)) & 255;
        }

        void write(long w, int more) {
            for (int i = 0; i < more && size < MOST_LETTERS; i++) {
                codes[size] = codeIn(w, i);
                size++;
            }
        }

        int firstFault() {
            int fronds = 0;
            boolean isKindTold = false;
            for (int place = 0; place < size; place++) {
                if (fronds == MOST_FRONDS) {
                    return place;
                }
                if (isDigit(codes[place])) {
                    fronds++;
                    isKindTold = false;
                } else if (!isKindTold && Kind.ofLetter(codes[place]) != NONE) {
                    isKindTold = true;
                } else {
                    return place;
                }
            }
            return size;
        }

        /** NONE: the page is no book. */
        int frondsOfBook() {
            if (size == 0 || firstFault() < size || !isDigit(codes[size - 1])) {
                return NONE;
            }
            int fronds = 0;
            for (int place = 0; place < size; place++) {
                if (isDigit(codes[place])) {
                    fronds++;
                }
            }
            return fronds;
        }

        void readInto(Herbarium herbs, int person) {
            int kind = Kind.FROND;
            for (int place = 0; place < size; place++) {
                if (isDigit(codes[place])) {
                    herbs.add(kind, codes[place] - '0', person);
                    kind = Kind.FROND;
                } else {
                    kind = Kind.ofLetter(codes[place]);
                }
            }
        }

        private static boolean isDigit(int code) {
            return code >= '0' && code <= '9';
        }
    }

    /** What people owe one another, row by row. */
    private static final class Debts {
        private final int[] sums = new int[PEOPLE * PEOPLE];

        int sum(int a, int b) {
            return sums[a * PEOPLE + b];
        }

        void put(int a, int b, int v) {
            sums[a * PEOPLE + b] = v;
        }

        void lessen(int a, int b, int by) {
            put(a, b, Math.max(0, sum(a, b) - by));
        }

        /** What a person owes, less what is owed to that person. */
        int balance(int person) {
            int balance = 0;
            for (int other = 0; other < PEOPLE; other++) {
                balance += sum(person, other) - sum(other, person);
            }
            return balance;
        }

        int total() {
            int total = 0;
            for (int v : sums) {
                total += v;
            }
            return total;
        }

        void copyFrom(Debts other) {
            System.arraycopy(other.sums, 0, sums, 0, PEOPLE * PEOPLE);
        }
    }

    /** All that an image keeps: fronds by number, debts, what was lost. */
    private static final class Herbarium {
        final int[] kinds = new int[MOST_FRONDS];
        final int[] leaflets = new int[MOST_FRONDS];
        final int[] owners = new int[MOST_FRONDS];
        final int[] tears = new int[MOST_FRONDS * MOST_TEARS];
        final Debts debts = new Debts();
        int size;
        int lostByHands;
        int lostByMould;

        void copyFrom(Herbarium other) {
            System.arraycopy(other.kinds, 0, kinds, 0, MOST_FRONDS);
            System.arraycopy(other.leaflets, 0, leaflets, 0, MOST_FRONDS);
            System.arraycopy(other.owners, 0, owners, 0, MOST_FRONDS);
            System.arraycopy(other.tears, 0, tears, 0, MOST_FRONDS * MOST_TEARS);
            debts.copyFrom(other.debts);
            size = other.size;
            lostByHands = other.lostByHands;
            lostByMould = other.lostByMould;
        }

        boolean knows(int frond) {
            return frond >= 0 && frond < size;
        }

        boolean isAtBank(int frond) {
            return owners[frond] == NONE;
        }

        /** The number of the new frond; NONE: there is no room for it. */
        int add(int kind, int worth, int owner) {
            if (size >= MOST_FRONDS) {
                return NONE;
            }
            int frond = size;
            kinds[frond] = kind;
            leaflets[frond] = worth;
            owners[frond] = owner;
            for (int i = 0; i < MOST_TEARS; i++) {
                tears[frond * MOST_TEARS + i] = NONE;
            }
            size++;
            return frond;
        }

        int worthBehindHand(int frond) {
            return Kind.behindHand(kinds[frond], leaflets[frond]);
        }

        int tear(int frond, int place) {
            return tears[frond * MOST_TEARS + place];
        }

        int tellOf(int frond, int what) {
            switch (what) {
                case 0:
                    return kinds[frond];
                case 1:
                    return leaflets[frond];
                case 2:
                    return owners[frond];
                case 3:
                    return worthBehindHand(frond);
                default:
                    return tear(frond, what - 4);
            }
        }

        /** Its leaflets then; to NONE it goes to the bank. */
        int goByHand(int frond, int to) {
            int then = worthBehindHand(frond);
            lostByHands += leaflets[frond] - then;
            leaflets[frond] = then;
            tearOff(frond, owners[frond]);
            owners[frond] = to;
            return then;
        }

        private void tearOff(int frond, int from) {
            int latest = frond * MOST_TEARS;
            for (int i = MOST_TEARS - 1; i > 0; i--) {
                tears[latest + i] = tears[latest + i - 1];
            }
            tears[latest] = from;
        }

        /** How many leaflets a damp month takes. */
        int takeMould() {
            int lost = 0;
            for (int frond = 0; frond < size; frond++) {
                if (!isAtBank(frond)) {
                    int then = Kind.behindDamp(kinds[frond], leaflets[frond]);
                    lost += leaflets[frond] - then;
                    leaflets[frond] = then;
                }
            }
            lostByMould += lost;
            return lost;
        }

        /** People as bits. */
        int ownersOfWholeFronds() {
            int people = 0;
            for (int frond = 0; frond < size; frond++) {
                if (leaflets[frond] == WHOLE_FROND && !isAtBank(frond)) {
                    people |= 1 << owners[frond];
                }
            }
            return people;
        }

        int leafletsOfAll() {
            int all = 0;
            for (int frond = 0; frond < size; frond++) {
                all += leaflets[frond];
            }
            return all;
        }

        int frondsAtBank() {
            int there = 0;
            for (int frond = 0; frond < size; frond++) {
                if (isAtBank(frond)) {
                    there++;
                }
            }
            return there;
        }
    }

    /** Looks for the fronds of a payer by which least is given away. */
    private static final class Purse {
        private static final int TOO_MUCH = MOST_FRONDS * WHOLE_FROND + 1;

        private int payer;
        private int leastWorth;
        private int leastBits;

        void search(Herbarium herbs, int who, int sum) {
            payer = who;
            leastWorth = TOO_MUCH;
            leastBits = NONE;
            int left = 0;
            for (int frond = 0; frond < herbs.size; frond++) {
                if (herbs.owners[frond] == who) {
                    left += herbs.worthBehindHand(frond);
                }
            }
            choose(herbs, 0, 0, 0, sum, left);
        }

        int worth() {
            return leastBits == NONE ? NONE : leastWorth;
        }

        int bits() {
            return leastBits;
        }

        /** left: what the payer's fronds from this one on would bring behind a hand each. */
        private void choose(Herbarium herbs, int frond, int bits, int worth, int missing, int left) {
            // One more frond never makes a set worth less, so a set that is worth too much can't mend.
            if (worth > leastWorth || missing > left) {
                return;
            }
            if (missing <= 0) {
                keepIfBetter(bits, worth);
                return;
            }
            if (!herbs.knows(frond)) {
                return;
            }
            if (herbs.owners[frond] != payer) {
                choose(herbs, frond + 1, bits, worth, missing, left);
                return;
            }
            int then = herbs.worthBehindHand(frond);
            choose(herbs, frond + 1, bits | 1 << frond, worth + herbs.leaflets[frond], missing - then, left - then);
            choose(herbs, frond + 1, bits, worth, missing, left - then);
        }

        private void keepIfBetter(int bits, int worth) {
            if (worth < leastWorth || (worth == leastWorth && isSmaller(bits))) {
                leastWorth = worth;
                leastBits = bits;
            }
        }

        private boolean isSmaller(int bits) {
            int more = Integer.bitCount(bits) - Integer.bitCount(leastBits);
            return more < 0 || (more == 0 && bits < leastBits);
        }
    }

    /** Looks for the longest ring of debts. */
    private static final class RingSearch {
        private final int[] path = new int[PEOPLE];
        private final int[] longest = new int[PEOPLE];
        private int length;

        void search(Debts debts) {
            length = 0;
            for (int first = 0; first < PEOPLE; first++) {
                path[0] = first;
                goOn(debts, 1, 1 << first);
            }
        }

        boolean isFound() {
            return length > 0;
        }

        int tell(Debts debts, int what) {
            if (what == 0) {
                return length;
            }
            if (what == 1) {
                return leastSum(debts);
            }
            int place = what - 10;
            return place >= 0 && place < length ? longest[place] : NONE;
        }

        /** Each of the ring owes so much less, as is answered. */
        int takeOff(Debts debts) {
            int by = leastSum(debts);
            for (int i = 0; i < length; i++) {
                debts.lessen(longest[i], behind(i), by);
            }
            return by;
        }

        private void goOn(Debts debts, int met, int metBits) {
            if (met < 1 || met > PEOPLE) {
                return;
            }
            int last = path[met - 1];
            // Rings come up in the order of their numbers, so a later one must be longer to be told.
            if (met > 1 && met > length && debts.sum(last, path[0]) > 0) {
                System.arraycopy(path, 0, longest, 0, met);
                length = met;
            }
            if (met == PEOPLE) {
                return;
            }
            // A ring is told from the least of its people on: nobody below the first one is in it.
            for (int next = path[0] + 1; next < PEOPLE; next++) {
                if ((metBits >> next & 1) == 0 && debts.sum(last, next) > 0) {
                    path[met] = next;
                    goOn(debts, met + 1, metBits | 1 << next);
                }
            }
        }

        private int leastSum(Debts debts) {
            int least = NONE;
            for (int i = 0; i < length; i++) {
                int v = debts.sum(longest[i], behind(i));
                if (least == NONE || v < least) {
                    least = v;
                }
            }
            return least;
        }

        private int behind(int place) {
            return place + 1 < length ? longest[place + 1] : longest[0];
        }
    }

    /** Puts people into as many even groups as can be; a set of people is told by bits. */
    private static final class Groups {
        private static final int SETS = 1 << PEOPLE;

        private final int[] balances = new int[SETS];
        private final int[] evenGroups = new int[SETS];

        int most(Debts debts) {
            for (int person = 0; person < PEOPLE; person++) {
                int balance = debts.balance(person);
                int start = 1 << person;
                for (int set = 0; set < start; set++) {
                    balances[start + set] = balances[set] + balance;
                }
            }
            for (int set = 1; set < SETS; set++) {
                evenGroups[set] = mostWithin(set);
            }
            return evenGroups[SETS - 1];
        }

        // Taking people away one by one, a group is whole each time that those left are even.
        private int mostWithin(int set) {
            int most = 0;
            for (int person = 0; person < PEOPLE; person++) {
                if ((set >> person & 1) != 0) {
                    most = Math.max(most, evenGroups[set ^ 1 << person]);
                }
            }
            return balances[set] == 0 ? most + 1 : most;
        }
    }

    /** How many of ten to the months chances each number of leaflets has. */
    private static final class Chances {
        private final long[] byLeaflets = new long[WHOLE_FROND + 1];
        private long all;
        private int kind;
        private int tenths;

        void begin(Herbarium herbs, int frond, int damp) {
            for (int n = 0; n <= WHOLE_FROND; n++) {
                byLeaflets[n] = n == herbs.leaflets[frond] ? 1 : 0;
            }
            all = 1;
            kind = herbs.kinds[frond];
            tenths = herbs.isAtBank(frond) ? 0 : damp;
        }

        void passMonth() {
            all *= ALL_TENTHS;
            // From few leaflets to many, so that none that mould has taken is taken again.
            for (int n = 0; n <= WHOLE_FROND; n++) {
                long chances = byLeaflets[n];
                byLeaflets[n] = chances * (ALL_TENTHS - tenths);
                byLeaflets[Kind.behindDamp(kind, n)] += chances * tenths;
            }
        }

        long meanInLowestTerms(int part) {
            long above = worthOfAll();
            long common = commonDivisor(above, all);
            if (common == 0) {
                return 0;
            }
            return part == 0 ? above / common : all / common;
        }

        int lastMonthOfNoLess(int months) {
            long before = worthOfAll();
            int last = 0;
            for (int i = 1; i <= months; i++) {
                passMonth();
                if (worthOfAll() >= before * all) {
                    last = i;
                }
            }
            return last;
        }

        private long worthOfAll() {
            long worth = 0;
            for (int n = 0; n <= WHOLE_FROND; n++) {
                worth += byLeaflets[n] * Kind.behindHand(kind, n);
            }
            return worth;
        }

        private static long commonDivisor(long a, long b) {
            long bigger = a;
            long smaller = b;
            for (int i = 0; i < 100 && smaller != 0; i++) {
                long rest = bigger % smaller;
                bigger = smaller;
                smaller = rest;
            }
            return bigger;
        }
    }

    /** Counts the ways that a frond could have gone. */
    private static final class Ways {
        static final int MOST_HANDS = 6, MOST_DAMP = 4;

        private final int[] rowsTo = new int[PEOPLE];

        /** In how many orders of hands and damp months a whole frond is left with so many leaflets. */
        static int orders(int kind, int hands, int months, int target) {
            return ordersFrom(kind, WHOLE_FROND, hands, months, target);
        }

        private static int ordersFrom(int kind, int leaflets, int hands, int months, int target) {
            // Leaflets never grow again.
            if (hands < 0 || hands > MOST_HANDS || months < 0 || months > MOST_DAMP || leaflets < target) {
                return 0;
            }
            if (hands == 0 && months == 0) {
                return leaflets == target ? 1 : 0;
            }
            return ordersFrom(kind, Kind.behindHand(kind, leaflets), hands - 1, months, target)
                + ordersFrom(kind, Kind.behindDamp(kind, leaflets), hands, months - 1, target);
        }

        /** In how many rows of people so many hands bring the frond its tears and its owner. */
        int throughPeople(Herbarium herbs, int frond, int from, int hands) {
            for (int place = hands; place < MOST_TEARS; place++) {
                if (herbs.tear(frond, place) != NONE) {
                    return 0;
                }
            }
            for (int person = 0; person < PEOPLE; person++) {
                rowsTo[person] = person == from ? 1 : 0;
            }
            for (int left = hands; left > 0; left--) {
                if (left <= MOST_TEARS) {
                    keepOnly(herbs.tear(frond, left - 1));
                }
                passOn();
            }
            int owner = herbs.owners[frond];
            return isPerson(owner) ? rowsTo[owner] : 0;
        }

        private void keepOnly(int giver) {
            for (int person = 0; person < PEOPLE; person++) {
                if (person != giver) {
                    rowsTo[person] = 0;
                }
            }
        }

        private void passOn() {
            int all = 0;
            for (int rows : rowsTo) {
                all += rows;
            }
            for (int person = 0; person < PEOPLE; person++) {
                rowsTo[person] = all - rowsTo[person];
            }
        }
    }

    /** Draws by a seed. */
    private static final class Draws {
        private long seed;

        void begin(int start) {
            seed = start;
        }

        int seed() {
            return (int) seed;
        }

        /** 1: the month was damp; 0: it was not. */
        int passMonth(Herbarium herbs, int tenths) {
            boolean isDamp = next(ALL_TENTHS) < tenths;
            if (isDamp) {
                herbs.takeMould();
            }
            if (herbs.size > 0) {
                int frond = next(herbs.size);
                int person = next(PEOPLE);
                if (herbs.knows(frond) && !herbs.isAtBank(frond) && herbs.owners[frond] != person) {
                    herbs.goByHand(frond, person);
                }
            }
            return isDamp ? 1 : 0;
        }

        private int next(int of) {
            seed = (1103515245L * seed + 12345L) & 0x7fffffffL;
            return of > 0 ? (int) ((seed >> 16) % of) : 0;
        }
    }
}
